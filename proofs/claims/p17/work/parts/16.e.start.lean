set_option maxHeartbeats 4000000 in
theorem whole_start {p : Program} {e : Jvm.Env} {s : State} {m : MethodId} {below : List Frame} {meth : Method} {c : Code} (l : Launch) {b L : Nat} {xs : Nat → Int32} (hL : L ≤ 2560) (C0 : lw_At p s m meth c b L xs) : W p l e room_1 s m #[Value.ref b] below meth c s.heap [] 0 0 (lw_Z below #[Value.ref b] s) (entryFrame m ([Value.ref b] : List Value).toArray 4) := by
  obtain ⟨G, g1, g2, g3, hC, hB⟩ := x_start C0
  obtain ⟨hx, hb, hr, hml, hown, hts, hX, hbl, hlocks, hgv⟩ := C0
  have hl := lv_entry ([.ref b]) (n := 4) (Nat.le_of_ble_eq_true rfl)
  rw [lg_entry_eq]
  generalize (lg_sl ([.ref b]) ++ List.replicate (4 - (lg_sl ([.ref b])).length) Slot.unset).toArray = ls at hl ⊢
  have hz := law_8 (G := G) (d := 100) (by decide) (by rw [g3]; exact hL)
  rw [g2] at hz
  have hs0 : xSum G.1 s.heap = 0 := by
    have := xSum_eq hB.1 hB.2.2.2.2.2.2.2.1
    rw [this]
    rfl
  refine hz p l e room_1 s m _ below meth c s.heap [] 0 0 ls _ hC hB hl ⟨by decide, by decide, ?_, ?_⟩ ?_
  · show G.1 + 600000 ≤ s.heap.size + 600000
    omega
  · show 7302250 ≤ xSum G.1 s.heap + 7302250
    omega
  · intro r cs' H' locs' cells' slots' pc' ls' hp hB' hret
    subst hp
    refine x_tight hB' fun hzz => ?_
    have hcap := hB'.2.2.2.2.2.2.2.2
    unfold xCap at hcap
    refine va_forget (fun q hq => by have := hB'.2.2.1.2.2 q hq; unfold xA at this; omega) ?_
    refine W.widen (k := 600000) (n := 7302250) (by omega) (by omega) ?_
    exact lw_ret hx hb hr hlocks hret.1

