set_option maxRecDepth 100000 in
set_option maxHeartbeats 4000000 in
theorem tX11_putName {a1 : Int} {S : St} {K : Int → St → Prop} (p1 : iv 0 29 a1) (p2 : (S.1 54 39) ≤ 3001) (hK : ∀ (r : Int) (S' : St), Ch [39] [83] S S' → ((S.1 54 39) ≤ (S'.1 54 39)) → ((S.2 57) a1 = 0 ∨ (S'.1 54 39) = 3001 ∨ (S.1 54 39) + 1 ≤ (S'.1 54 39)) → ((S'.1 54 39) ≤ 3001) → K r S') : wX11_putName a1 S K := by
  unfold wX11_putName
  intro g1
  unfold wX11_putName_2
  refine ⟨fun u1 u2 Sx => Ch [39] [83] S Sx ∧ a1 = u1 ∧ (iv 0 8 u2) ∧ ((S.1 54 39) ≤ (Sx.1 54 39)) ∧ (u2 = 0 ∨ (Sx.1 54 39) = 3001 ∨ (S.1 54 39) + 1 ≤ (Sx.1 54 39)) ∧ ((Sx.1 54 39) ≤ 3001), fun u1 u2 Sx => (9 - u2).toNat, ?_, fun v2_1 v2_2 S2h hI => ?_⟩
  · exact ⟨Ch.re, rfl, by omega, by omega, by omega, by omega⟩
  obtain ⟨hS2h, rfl, i2_0, i2_1, i2_2, i2_3⟩ := hI
  unfold wX11_putName_2'
  refine ⟨by omega, by omega, ?_⟩
  intro q1
  have e2 : S2h.2 57 (a1) = S.2 57 (a1) := congrFun (hS2h.2 57 (by decide)) _
  refine ⟨by omega, ?_⟩
  refine ⟨fun h9 => ?_, fun h9 => ?_⟩
  · exact hK (0) S2h (Ch.wk hS2h (by decide) (by decide)) (by omega) (by omega) (by omega)
  · refine ⟨by omega, by omega, ?_⟩
    intro q3
    have e4 : S2h.2 58 (((8 * a1) + v2_2)) = S.2 58 (((8 * a1) + v2_2)) := congrFun (hS2h.2 58 (by decide)) _
    intro x23 hx23
    subst hx23
    refine ⟨fun h28 => ?_, fun h28 => ?_⟩
    · unfold wX11_putName_37
      refine ⟨by omega, ?_⟩
      refine tX11_put  (fun r37 S37 hS37 n37_0 n37_1 => ?_)
      refine ⟨by omega, ?_⟩
      refine ⟨fun h43 => ?_, fun h43 => ?_⟩
      · unfold wX11_putName_52
        refine ⟨by omega, ?_⟩
        refine ⟨fun h55 => ?_, fun h55 => ?_⟩
        · unfold wX11_putName_64
          exact ⟨⟨(Ch.wk (Ch.tr hS2h hS37) (by decide) (by decide)), rfl, by omega, by omega, by omega, by omega⟩, show (9 - ((v2_2 + 1))).toNat < (9 - v2_2).toNat by omega⟩
        · refine tX11_put  (fun r61 S61 hS61 n61_0 n61_1 => ?_)
          unfold wX11_putName_64
          exact ⟨⟨(Ch.wk (Ch.tr (Ch.tr hS2h hS37) hS61) (by decide) (by decide)), rfl, by omega, by omega, by omega, by omega⟩, show (9 - ((v2_2 + 1))).toNat < (9 - v2_2).toNat by omega⟩
      · refine tX11_put  (fun r49 S49 hS49 n49_0 n49_1 => ?_)
        unfold wX11_putName_52
        refine ⟨by omega, ?_⟩
        refine ⟨fun h55 => ?_, fun h55 => ?_⟩
        · unfold wX11_putName_64
          exact ⟨⟨(Ch.wk (Ch.tr (Ch.tr hS2h hS37) hS49) (by decide) (by decide)), rfl, by omega, by omega, by omega, by omega⟩, show (9 - ((v2_2 + 1))).toNat < (9 - v2_2).toNat by omega⟩
        · refine tX11_put  (fun r61 S61 hS61 n61_0 n61_1 => ?_)
          unfold wX11_putName_64
          exact ⟨⟨(Ch.wk (Ch.tr (Ch.tr (Ch.tr hS2h hS37) hS49) hS61) (by decide) (by decide)), rfl, by omega, by omega, by omega, by omega⟩, show (9 - ((v2_2 + 1))).toNat < (9 - v2_2).toNat by omega⟩
    · unfold wX11_putName_37
      refine ⟨by omega, ?_⟩
      refine tX11_put  (fun r37 S37 hS37 n37_0 n37_1 => ?_)
      refine ⟨by omega, ?_⟩
      refine ⟨fun h43 => ?_, fun h43 => ?_⟩
      · unfold wX11_putName_52
        refine ⟨by omega, ?_⟩
        refine ⟨fun h55 => ?_, fun h55 => ?_⟩
        · unfold wX11_putName_64
          exact ⟨⟨(Ch.wk (Ch.tr hS2h hS37) (by decide) (by decide)), rfl, by omega, by omega, by omega, by omega⟩, show (9 - ((v2_2 + 1))).toNat < (9 - v2_2).toNat by omega⟩
        · refine tX11_put  (fun r61 S61 hS61 n61_0 n61_1 => ?_)
          unfold wX11_putName_64
          exact ⟨⟨(Ch.wk (Ch.tr (Ch.tr hS2h hS37) hS61) (by decide) (by decide)), rfl, by omega, by omega, by omega, by omega⟩, show (9 - ((v2_2 + 1))).toNat < (9 - v2_2).toNat by omega⟩
      · refine tX11_put  (fun r49 S49 hS49 n49_0 n49_1 => ?_)
        unfold wX11_putName_52
        refine ⟨by omega, ?_⟩
        refine ⟨fun h55 => ?_, fun h55 => ?_⟩
        · unfold wX11_putName_64
          exact ⟨⟨(Ch.wk (Ch.tr (Ch.tr hS2h hS37) hS49) (by decide) (by decide)), rfl, by omega, by omega, by omega, by omega⟩, show (9 - ((v2_2 + 1))).toNat < (9 - v2_2).toNat by omega⟩
        · refine tX11_put  (fun r61 S61 hS61 n61_0 n61_1 => ?_)
          unfold wX11_putName_64
          exact ⟨⟨(Ch.wk (Ch.tr (Ch.tr (Ch.tr hS2h hS37) hS49) hS61) (by decide) (by decide)), rfl, by omega, by omega, by omega, by omega⟩, show (9 - ((v2_2 + 1))).toNat < (9 - v2_2).toNat by omega⟩

set_option maxRecDepth 100000 in
set_option maxHeartbeats 4000000 in
theorem tX11_putNumber {a1 : Int} {S : St} {K : Int → St → Prop} (p1 : (S.1 54 39) ≤ 3001) (hK : ∀ (r : Int) (S' : St), Ch [39] [83] S S' → ((S.1 54 39) ≤ (S'.1 54 39)) → ((S'.1 54 39) ≤ 3001) → K r S') : wX11_putNumber a1 S K := by
  unfold wX11_putNumber
  intro g1
  refine ⟨fun h1 => ?_, fun h1 => ?_⟩
  · unfold wX11_putNumber_12
    refine ⟨by omega, ?_⟩
    refine ⟨fun h14 => ?_, fun h14 => ?_⟩
    · unfold wX11_putNumber_23
      unfold wX11_putNumber_26
      refine ⟨fun u2 u4 Sx => S = Sx ∧ (a1) = u2 ∧ (0 ≤ u2 ∧ u2 ≤ 2147483648) ∧ (1 ≤ u4 ∧ u4 ≤ 2147483648), fun u2 u4 Sx => (2147483649 - u4).toNat, ?_, fun v26_2 v26_4 S26h hI => ?_⟩
      · exact ⟨rfl, rfl, by omega, by omega⟩
      obtain ⟨rfl, rfl, i26_0, i26_1⟩ := hI
      unfold wX11_putNumber_26'
      have hq := tdq (n := ((a1))) (b := v26_4) (by omega) (by omega)
      refine ⟨by omega, ?_⟩
      refine ⟨by omega, ?_⟩
      refine ⟨by omega, ?_⟩
      refine ⟨by omega, ?_⟩
      refine ⟨fun h33 => ?_, fun h33 => ?_⟩
      · unfold wX11_putNumber_48
        refine ⟨fun u2 u4 Sx => Ch [39] [83] S Sx ∧ (a1) = u2 ∧ (0 ≤ u2 ∧ u2 ≤ 2147483648) ∧ (0 ≤ u4 ∧ u4 ≤ 2147483648) ∧ ((S.1 54 39) ≤ (Sx.1 54 39)) ∧ ((Sx.1 54 39) ≤ 3001), fun u2 u4 Sx => (u4).toNat, ?_, fun v48_2 v48_4 S48h hI => ?_⟩
        · exact ⟨Ch.re, rfl, by omega, by omega, by omega, by omega⟩
        obtain ⟨hS48h, rfl, i48_0, i48_1, i48_2, i48_3⟩ := hI
        unfold wX11_putNumber_48'
        refine ⟨by omega, ?_⟩
        refine ⟨fun h51 => ?_, fun h51 => ?_⟩
        · exact hK (0) S48h (Ch.wk hS48h (by decide) (by decide)) (by omega) (by omega)
        · have hq := tdq (n := ((a1))) (b := v48_4) (by omega) (by omega)
          have hm := tdm hq.1
          have ht := td10 (b := v48_4) (by omega)
          refine ⟨by omega, ?_⟩
          refine ⟨by omega, ?_⟩
          refine ⟨by omega, ?_⟩
          refine ⟨by omega, ?_⟩
          refine ⟨by omega, ?_⟩
          refine tX11_put  (fun r68 S68 hS68 n68_0 n68_1 => ?_)
          refine ⟨by omega, ?_⟩
          intro x77 hx77
          subst hx77
          exact ⟨⟨(Ch.wk (Ch.tr hS48h hS68) (by decide) (by decide)), rfl, by omega, by omega, by omega, by omega⟩, show ((((Int.tdiv (v48_4) (10))))).toNat < (v48_4).toNat by omega⟩
      · have hq := tdv (n := ((a1))) (b := v26_4) (by omega) (by omega) (by omega)
        intro x43 hx43
        subst hx43
        exact ⟨⟨rfl, rfl, by omega, by omega⟩, show (2147483649 - (((v26_4 * 10)))).toNat < (2147483649 - v26_4).toNat by omega⟩
    · refine tX11_put  (fun r20 S20 hS20 n20_0 n20_1 => ?_)
      unfold wX11_putNumber_23
      unfold wX11_putNumber_26
      refine ⟨fun u2 u4 Sx => S20 = Sx ∧ (a1) = u2 ∧ (0 ≤ u2 ∧ u2 ≤ 2147483648) ∧ (1 ≤ u4 ∧ u4 ≤ 2147483648), fun u2 u4 Sx => (2147483649 - u4).toNat, ?_, fun v26_2 v26_4 S26h hI => ?_⟩
      · exact ⟨rfl, rfl, by omega, by omega⟩
      obtain ⟨rfl, rfl, i26_0, i26_1⟩ := hI
      unfold wX11_putNumber_26'
      have hq := tdq (n := ((a1))) (b := v26_4) (by omega) (by omega)
      refine ⟨by omega, ?_⟩
      refine ⟨by omega, ?_⟩
      refine ⟨by omega, ?_⟩
      refine ⟨by omega, ?_⟩
      refine ⟨fun h33 => ?_, fun h33 => ?_⟩
      · unfold wX11_putNumber_48
        refine ⟨fun u2 u4 Sx => Ch [39] [83] S20 Sx ∧ (a1) = u2 ∧ (0 ≤ u2 ∧ u2 ≤ 2147483648) ∧ (0 ≤ u4 ∧ u4 ≤ 2147483648) ∧ ((S.1 54 39) ≤ (Sx.1 54 39)) ∧ ((Sx.1 54 39) ≤ 3001), fun u2 u4 Sx => (u4).toNat, ?_, fun v48_2 v48_4 S48h hI => ?_⟩
        · exact ⟨Ch.re, rfl, by omega, by omega, by omega, by omega⟩
        obtain ⟨hS48h, rfl, i48_0, i48_1, i48_2, i48_3⟩ := hI
        unfold wX11_putNumber_48'
        refine ⟨by omega, ?_⟩
        refine ⟨fun h51 => ?_, fun h51 => ?_⟩
        · exact hK (0) S48h (Ch.wk (Ch.tr hS20 hS48h) (by decide) (by decide)) (by omega) (by omega)
        · have hq := tdq (n := ((a1))) (b := v48_4) (by omega) (by omega)
          have hm := tdm hq.1
          have ht := td10 (b := v48_4) (by omega)
          refine ⟨by omega, ?_⟩
          refine ⟨by omega, ?_⟩
          refine ⟨by omega, ?_⟩
          refine ⟨by omega, ?_⟩
          refine ⟨by omega, ?_⟩
          refine tX11_put  (fun r68 S68 hS68 n68_0 n68_1 => ?_)
          refine ⟨by omega, ?_⟩
          intro x77 hx77
          subst hx77
          exact ⟨⟨(Ch.wk (Ch.tr hS48h hS68) (by decide) (by decide)), rfl, by omega, by omega, by omega, by omega⟩, show ((((Int.tdiv (v48_4) (10))))).toNat < (v48_4).toNat by omega⟩
      · have hq := tdv (n := ((a1))) (b := v26_4) (by omega) (by omega) (by omega)
        intro x43 hx43
        subst hx43
        exact ⟨⟨rfl, rfl, by omega, by omega⟩, show (2147483649 - (((v26_4 * 10)))).toNat < (2147483649 - v26_4).toNat by omega⟩
  · unfold wX11_putNumber_12
    refine ⟨by omega, ?_⟩
    refine ⟨fun h14 => ?_, fun h14 => ?_⟩
    · unfold wX11_putNumber_23
      unfold wX11_putNumber_26
      refine ⟨fun u2 u4 Sx => S = Sx ∧ (-a1) = u2 ∧ (0 ≤ u2 ∧ u2 ≤ 2147483648) ∧ (1 ≤ u4 ∧ u4 ≤ 2147483648), fun u2 u4 Sx => (2147483649 - u4).toNat, ?_, fun v26_2 v26_4 S26h hI => ?_⟩
      · exact ⟨rfl, rfl, by omega, by omega⟩
      obtain ⟨rfl, rfl, i26_0, i26_1⟩ := hI
      unfold wX11_putNumber_26'
      have hq := tdq (n := ((-a1))) (b := v26_4) (by omega) (by omega)
      refine ⟨by omega, ?_⟩
      refine ⟨by omega, ?_⟩
      refine ⟨by omega, ?_⟩
      refine ⟨by omega, ?_⟩
      refine ⟨fun h33 => ?_, fun h33 => ?_⟩
      · unfold wX11_putNumber_48
        refine ⟨fun u2 u4 Sx => Ch [39] [83] S Sx ∧ (-a1) = u2 ∧ (0 ≤ u2 ∧ u2 ≤ 2147483648) ∧ (0 ≤ u4 ∧ u4 ≤ 2147483648) ∧ ((S.1 54 39) ≤ (Sx.1 54 39)) ∧ ((Sx.1 54 39) ≤ 3001), fun u2 u4 Sx => (u4).toNat, ?_, fun v48_2 v48_4 S48h hI => ?_⟩
        · exact ⟨Ch.re, rfl, by omega, by omega, by omega, by omega⟩
        obtain ⟨hS48h, rfl, i48_0, i48_1, i48_2, i48_3⟩ := hI
        unfold wX11_putNumber_48'
        refine ⟨by omega, ?_⟩
        refine ⟨fun h51 => ?_, fun h51 => ?_⟩
        · exact hK (0) S48h (Ch.wk hS48h (by decide) (by decide)) (by omega) (by omega)
        · have hq := tdq (n := ((-a1))) (b := v48_4) (by omega) (by omega)
          have hm := tdm hq.1
          have ht := td10 (b := v48_4) (by omega)
          refine ⟨by omega, ?_⟩
          refine ⟨by omega, ?_⟩
          refine ⟨by omega, ?_⟩
          refine ⟨by omega, ?_⟩
          refine ⟨by omega, ?_⟩
          refine tX11_put  (fun r68 S68 hS68 n68_0 n68_1 => ?_)
          refine ⟨by omega, ?_⟩
          intro x77 hx77
          subst hx77
          exact ⟨⟨(Ch.wk (Ch.tr hS48h hS68) (by decide) (by decide)), rfl, by omega, by omega, by omega, by omega⟩, show ((((Int.tdiv (v48_4) (10))))).toNat < (v48_4).toNat by omega⟩
      · have hq := tdv (n := ((-a1))) (b := v26_4) (by omega) (by omega) (by omega)
        intro x43 hx43
        subst hx43
        exact ⟨⟨rfl, rfl, by omega, by omega⟩, show (2147483649 - (((v26_4 * 10)))).toNat < (2147483649 - v26_4).toNat by omega⟩
    · refine tX11_put  (fun r20 S20 hS20 n20_0 n20_1 => ?_)
      unfold wX11_putNumber_23
      unfold wX11_putNumber_26
      refine ⟨fun u2 u4 Sx => S20 = Sx ∧ (-a1) = u2 ∧ (0 ≤ u2 ∧ u2 ≤ 2147483648) ∧ (1 ≤ u4 ∧ u4 ≤ 2147483648), fun u2 u4 Sx => (2147483649 - u4).toNat, ?_, fun v26_2 v26_4 S26h hI => ?_⟩
      · exact ⟨rfl, rfl, by omega, by omega⟩
      obtain ⟨rfl, rfl, i26_0, i26_1⟩ := hI
      unfold wX11_putNumber_26'
      have hq := tdq (n := ((-a1))) (b := v26_4) (by omega) (by omega)
      refine ⟨by omega, ?_⟩
      refine ⟨by omega, ?_⟩
      refine ⟨by omega, ?_⟩
      refine ⟨by omega, ?_⟩
      refine ⟨fun h33 => ?_, fun h33 => ?_⟩
      · unfold wX11_putNumber_48
        refine ⟨fun u2 u4 Sx => Ch [39] [83] S20 Sx ∧ (-a1) = u2 ∧ (0 ≤ u2 ∧ u2 ≤ 2147483648) ∧ (0 ≤ u4 ∧ u4 ≤ 2147483648) ∧ ((S.1 54 39) ≤ (Sx.1 54 39)) ∧ ((Sx.1 54 39) ≤ 3001), fun u2 u4 Sx => (u4).toNat, ?_, fun v48_2 v48_4 S48h hI => ?_⟩
        · exact ⟨Ch.re, rfl, by omega, by omega, by omega, by omega⟩
        obtain ⟨hS48h, rfl, i48_0, i48_1, i48_2, i48_3⟩ := hI
        unfold wX11_putNumber_48'
        refine ⟨by omega, ?_⟩
        refine ⟨fun h51 => ?_, fun h51 => ?_⟩
        · exact hK (0) S48h (Ch.wk (Ch.tr hS20 hS48h) (by decide) (by decide)) (by omega) (by omega)
        · have hq := tdq (n := ((-a1))) (b := v48_4) (by omega) (by omega)
          have hm := tdm hq.1
          have ht := td10 (b := v48_4) (by omega)
          refine ⟨by omega, ?_⟩
          refine ⟨by omega, ?_⟩
          refine ⟨by omega, ?_⟩
          refine ⟨by omega, ?_⟩
          refine ⟨by omega, ?_⟩
          refine tX11_put  (fun r68 S68 hS68 n68_0 n68_1 => ?_)
          refine ⟨by omega, ?_⟩
          intro x77 hx77
          subst hx77
          exact ⟨⟨(Ch.wk (Ch.tr hS48h hS68) (by decide) (by decide)), rfl, by omega, by omega, by omega, by omega⟩, show ((((Int.tdiv (v48_4) (10))))).toNat < (v48_4).toNat by omega⟩
      · have hq := tdv (n := ((-a1))) (b := v26_4) (by omega) (by omega) (by omega)
        intro x43 hx43
        subst hx43
        exact ⟨⟨rfl, rfl, by omega, by omega⟩, show (2147483649 - (((v26_4 * 10)))).toNat < (2147483649 - v26_4).toNat by omega⟩

set_option maxRecDepth 100000 in
set_option maxHeartbeats 4000000 in
theorem tX11_putText {a1 a2 : Int} {S : St} {K : Int → St → Prop} (p1 : iv 0 119 a1) (p2 : (S.2 69) a1 ≤ 20) (p3 : (S.1 54 39) ≤ 3001) (hK : ∀ (r : Int) (S' : St), Ch [39] [83] S S' → ((S.1 54 39) ≤ (S'.1 54 39)) → ((S'.1 54 39) ≤ 3001) → K r S') : wX11_putText a1 a2 S K := by
  unfold wX11_putText
  intro g1 g2
  unfold wX11_putText_2
  refine ⟨fun u1 u2 u3 Sx => Ch [39] [83] S Sx ∧ a1 = u1 ∧ a2 = u2 ∧ (iv 0 20 u3) ∧ ((S.1 54 39) ≤ (Sx.1 54 39)) ∧ ((Sx.1 54 39) ≤ 3001), fun u1 u2 u3 Sx => (21 - u3).toNat, ?_, fun v2_1 v2_2 v2_3 S2h hI => ?_⟩
  · exact ⟨Ch.re, rfl, rfl, by omega, by omega, by omega⟩
  obtain ⟨hS2h, rfl, rfl, i2_0, i2_1, i2_2⟩ := hI
  unfold wX11_putText_2'
  refine ⟨by omega, by omega, ?_⟩
  intro q1
  have e2 : S2h.2 69 (a1) = S.2 69 (a1) := congrFun (hS2h.2 69 (by decide)) _
  refine ⟨by omega, ?_⟩
  refine ⟨fun h9 => ?_, fun h9 => ?_⟩
  · exact hK (0) S2h (Ch.wk hS2h (by decide) (by decide)) (by omega) (by omega)
  · refine ⟨by omega, by omega, ?_⟩
    intro q3
    have e4 : S2h.2 70 (((20 * a1) + v2_3)) = S.2 70 (((20 * a1) + v2_3)) := congrFun (hS2h.2 70 (by decide)) _
    intro x23 hx23
    subst hx23
    refine ⟨fun h29 => ?_, fun h29 => ?_⟩
    · refine ⟨fun h57 => ?_, fun h57 => ?_⟩
      · unfold wX11_putText_67
        refine ⟨by omega, ?_⟩
        refine ⟨fun h74 => ?_, fun h74 => ?_⟩
        · unfold wX11_putText_84
          refine ⟨by omega, ?_⟩
          refine ⟨by omega, ?_⟩
          refine tX11_putWord (by omega) (fun r88 S88 hS88 n88_0 n88_1 n88_2 n88_3 => ?_)
          unfold wX11_putText_136
          exact ⟨⟨(Ch.wk (Ch.tr hS2h hS88) (by decide) (by decide)), rfl, rfl, by omega, by omega, by omega⟩, show (21 - ((v2_3 + 1))).toNat < (21 - v2_3).toNat by omega⟩
        · unfold wX11_putText_84
          refine ⟨by omega, ?_⟩
          refine ⟨by omega, ?_⟩
          refine tX11_putWord (by omega) (fun r88 S88 hS88 n88_0 n88_1 n88_2 n88_3 => ?_)
          unfold wX11_putText_136
          exact ⟨⟨(Ch.wk (Ch.tr hS2h hS88) (by decide) (by decide)), rfl, rfl, by omega, by omega, by omega⟩, show (21 - ((v2_3 + 1))).toNat < (21 - v2_3).toNat by omega⟩
      · refine ⟨fun h64 => ?_, fun h64 => ?_⟩
        · refine ⟨fun h98 => ?_, fun h98 => ?_⟩
          · unfold wX11_putText_130
            refine ⟨by omega, ?_⟩
            refine tX11_put  (fun r133 S133 hS133 n133_0 n133_1 => ?_)
            unfold wX11_putText_136
            exact ⟨⟨(Ch.wk (Ch.tr hS2h hS133) (by decide) (by decide)), rfl, rfl, by omega, by omega, by omega⟩, show (21 - ((v2_3 + 1))).toNat < (21 - v2_3).toNat by omega⟩
          · refine ⟨by omega, ?_⟩
            refine ⟨fun h102 => ?_, fun h102 => ?_⟩
            · unfold wX11_putText_130
              refine ⟨by omega, ?_⟩
              refine tX11_put  (fun r133 S133 hS133 n133_0 n133_1 => ?_)
              unfold wX11_putText_136
              exact ⟨⟨(Ch.wk (Ch.tr hS2h hS133) (by decide) (by decide)), rfl, rfl, by omega, by omega, by omega⟩, show (21 - ((v2_3 + 1))).toNat < (21 - v2_3).toNat by omega⟩
            · refine tX11_putWord (by omega) (fun r114 S114 hS114 n114_0 n114_1 n114_2 n114_3 => ?_)
              refine tX11_putWord (by omega) (fun r124 S124 hS124 n124_0 n124_1 n124_2 n124_3 => ?_)
              unfold wX11_putText_136
              exact ⟨⟨(Ch.wk (Ch.tr (Ch.tr hS2h hS114) hS124) (by decide) (by decide)), rfl, rfl, by omega, by omega, by omega⟩, show (21 - ((v2_3 + 1))).toNat < (21 - v2_3).toNat by omega⟩
        · unfold wX11_putText_67
          refine ⟨by omega, ?_⟩
          refine ⟨fun h74 => ?_, fun h74 => ?_⟩
          · unfold wX11_putText_84
            refine ⟨by omega, ?_⟩
            refine ⟨by omega, ?_⟩
            refine tX11_putWord (by omega) (fun r88 S88 hS88 n88_0 n88_1 n88_2 n88_3 => ?_)
            unfold wX11_putText_136
            exact ⟨⟨(Ch.wk (Ch.tr hS2h hS88) (by decide) (by decide)), rfl, rfl, by omega, by omega, by omega⟩, show (21 - ((v2_3 + 1))).toNat < (21 - v2_3).toNat by omega⟩
          · unfold wX11_putText_84
            refine ⟨by omega, ?_⟩
            refine ⟨by omega, ?_⟩
            refine tX11_putWord (by omega) (fun r88 S88 hS88 n88_0 n88_1 n88_2 n88_3 => ?_)
            unfold wX11_putText_136
            exact ⟨⟨(Ch.wk (Ch.tr hS2h hS88) (by decide) (by decide)), rfl, rfl, by omega, by omega, by omega⟩, show (21 - ((v2_3 + 1))).toNat < (21 - v2_3).toNat by omega⟩
    · refine tX11_putWord (by omega) (fun r41 S41 hS41 n41_0 n41_1 n41_2 n41_3 => ?_)
      refine tX11_put  (fun r47 S47 hS47 n47_0 n47_1 => ?_)
      unfold wX11_putText_136
      exact ⟨⟨(Ch.wk (Ch.tr (Ch.tr hS2h hS41) hS47) (by decide) (by decide)), rfl, rfl, by omega, by omega, by omega⟩, show (21 - ((v2_3 + 1))).toNat < (21 - v2_3).toNat by omega⟩

set_option maxRecDepth 100000 in
set_option maxHeartbeats 4000000 in
theorem tX11_putValue {a1 a2 a3 a4 : Int} {S : St} {K : Int → St → Prop} (p1 : iv 0 29 a1) (p2 : iv 0 3 a2) (p3 : iv 0 5 a3) (p4 : (S.2 59) (4 * a3 + a2) = 0 ∨ (S.2 69) (4 * a1 + a2) ≤ 20) (p5 : (S.1 54 39) ≤ 3001) (hK : ∀ (r : Int) (S' : St), Ch [39] [83] S S' → ((S.1 54 39) ≤ (S'.1 54 39)) → ((S'.1 54 39) ≤ 3001) → K r S') : wX11_putValue a1 a2 a3 a4 S K := by
  unfold wX11_putValue
  intro g1 g2 g3 g4
  intro x5 hx5
  subst hx5
  refine ⟨by omega, by omega, ?_⟩
  intro q1
  refine ⟨fun h17 => ?_, fun h17 => ?_⟩
  · refine ⟨by omega, ?_⟩
    refine tX11_putText (by omega) (by omega) (by omega) (fun r39 S39 hS39 n39_0 n39_1 => ?_)
    exact hK (0) S39 (Ch.wk hS39 (by decide) (by decide)) (by omega) (by omega)
  · refine ⟨by omega, by omega, ?_⟩
    intro q2
    refine tX11_putNumber (by omega) (fun r28 S28 hS28 n28_0 n28_1 => ?_)
    exact hK (0) S28 (Ch.wk hS28 (by decide) (by decide)) (by omega) (by omega)
