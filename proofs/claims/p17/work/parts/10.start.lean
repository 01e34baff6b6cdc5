/-! THE CLAIM OUT OF ONE WALK OF THE LAW'S BODY. Your part is whole_start (and what it stands on); all else here is the same for every law, but numbers. -/
def R_law : String := "GraphScribeLaw"
def lw_P (b : Addr) (xs : List Int32) (args : Array Value) (s : State) : Prop := args = #[.ref b] ∧ s.IntsAt b xs ∧ xs.length ≤ 2560 ∧ (Jvm.Cond.and given_1 narrow_1).before args s = true
def lw_Q (_ : Array Value) (s : State) (o : Outcome) (t : State) : Prop := o = .returned (some (.int 1)) ∧ Framed s o t [] 600000 7302250
def lw_Z (below : List Frame) (a : Array Value) (s : State) : State → Prop := fun t => ∃ o, t.status = .running ∧ Ended t below o ∧ lw_Q a s o t
/-- the law's own end, with 1 on the stack, nothing written that was there before, its room as the claim has it -/
theorem lw_ret {p : Program} {l : Launch} {e : Env} {s : State} {m : MethodId} {below : List Frame} {meth : Method} {c : Code} {b : Nat} (hx : p.tables.exec = Jvm.exec) (hb : c.code = code) (hr : meth.sig.returnType = ret) (hlocks : meth.locks = false) {pc : Nat} {H : Heap} {ls : Array Slot} (hdg : decode code pc = .ok (.ireturn, 1)) : W p l e room_1 s m #[Value.ref b] below meth c H [] 600000 7302250 (lw_Z below #[Value.ref b] s) (F0 m pc ls [.int 1]) := by
  intro T hT X
  obtain ⟨fs, hret, hrun, hended, hW, hframe⟩ := X.leave (v := some (.int 1)) (hlocks := hlocks) (fun h => by rw [hr] at h; cases h)
  have hmeth' : T.vm.method? m = some meth := X.method'
  refine ⟨T.setFrames fs, ?_, .returned (some (.int 1)), hrun, hended, rfl, ⟨_, rfl⟩, hW, hframe⟩
  jvm_step X.here [X.here.top, hx, hb, hdg, hmeth', hr, ret, narrow_b1]
  (try refine ⟨rfl, ?_⟩); (try refine ⟨rfl, ?_⟩)
  first | (intro acts; rw [hret _ acts rfl rfl rfl]) | rw [hret _ _ rfl rfl rfl]
  exact Steps.refl _
/-- what holds at the law's entry: the machine, the code, the tables' words (any of lw_tbl by 'hts w (by decide +kernel)'), the script of L ints xs at the cell b, what the Statement gives of the start (any of its parts by flat_of_before) -/
def lw_At (p : Program) (s : State) (m : MethodId) (meth : Method) (c : Code) (b L : Nat) (xs : Nat → Int32) : Prop :=
  p.tables.exec = Jvm.exec ∧ c.code = code ∧ meth.sig.returnType = ret ∧ c.maxLocals = 4 ∧ s.vm.findClass R_law = some m.cls ∧ (∀ w ∈ lw_tbl, w.before #[Value.ref b] s = true) ∧ va_X b L xs s s.heap ∧ b < s.heap.size ∧ meth.locks = false ∧ (Jvm.Cond.and given_1 narrow_1).before #[Value.ref b] s = true

/-! THE START -/
def xTm (i : Nat) : Term := Term.string (xStrs.getD i ("", 0, "", 0)).1 (xStrs.getD i ("", 0, "", 0)).2.1
abbrev xFl0 : List Cond := flatC (Jvm.Cond.and given_1 narrow_1)
theorem xF_ex : ∀ i, i < xN → Cond.exactly (xTm i) "java/lang/String" ∈ xFl0 := by decide +kernel
theorem xF_co : ∀ i, i < xN → Cond.eq (.field (xTm i) "java/lang/String" "coder" "B") (.int 0) ∈ xFl0 := by decide +kernel
theorem xF_ar : ∀ i, i < xN → Cond.arrayOf (.field (xTm i) "java/lang/String" "value" "[B") .byte ∈ xFl0 := by decide +kernel
theorem xF_le : ∀ i, i < xN → Cond.eq (.length (.field (xTm i) "java/lang/String" "value" "[B")) (.int (Int32.ofNat (xLen.getD i 0))) ∈ xFl0 := by decide +kernel
theorem xF_el : ∀ i, i < xN → ∀ j, j < xLen.getD i 0 → Cond.eq (.elem (.field (xTm i) "java/lang/String" "value" "[B") (.int (Int32.ofNat j))) (.int ((xByt.getD i []).getD j 0)) ∈ xFl0 := by decide +kernel
theorem xF_cs : Cond.eq (.static "java/lang/String" "COMPACT_STRINGS" "Z") (.int 1) ∈ xFl0 := by decide +kernel
theorem xF_si : Cond.isRef (.static "jdk/internal/util/Preconditions" "SIOOBE_FORMATTER" "Ljava/util/function/BiFunction;") ∈ xFl0 := by decide +kernel
theorem xF_tm : ∀ q ∈ xStrs, xTm q.2.2.2 = Term.string q.1 q.2.1 ∧ q.2.2.2 < xN := by decide +kernel
theorem xF_sr : ∀ q ∈ xStrs, Cond.stringRef q.1 q.2.1 q.2.2.1 ∈ tables_1 := by decide +kernel
theorem xF_nw : ∀ q ∈ xNest, Cond.methodLinkNest q.1 q.2.1 q.2.2.1 q.2.2.2 ∈ tables_1 := by decide +kernel
theorem xF_l1 : Cond.laysStatic "java/lang/String" "COMPACT_STRINGS" "Z" ∈ tables_1 := by decide +kernel
theorem xF_l2 : Cond.laysStatic "jdk/internal/util/Preconditions" "SIOOBE_FORMATTER" "Ljava/util/function/BiFunction;" ∈ tables_1 := by decide +kernel
theorem xF_i1 : Cond.initialized "java/lang/String" ∈ tables_1 := by decide +kernel
theorem xF_i2 : Cond.initialized "jdk/internal/util/Preconditions" ∈ tables_1 := by decide +kernel
theorem xTs_lw : ∀ w ∈ xTs, w ∈ lw_tbl := fun _ h => (List.mem_filter.mp h).1
theorem x_arr {args : Array Value} {s : State} {ty : FieldType} (hp : ∀ C, ty ≠ .object C) (h : (Cond.arrayClass ty).before args s = true) : ∃ cA : ClassId, ArrOfT s cA ty ∧ va_RA s cA ty := by
  obtain ⟨c, k, comp, h1, h2, h3⟩ := Cond.arrayClass_spec (args := args) (first := s) (o := none) (s := s) (idx := []) h
  refine ⟨c, fun n z => ⟨fun k h => (by cases h), k, h2, comp, h3⟩, ?_⟩
  cases ty <;> first | exact h1 | exact absurd rfl (hp _)
theorem x_cls {args : Array Value} {s : State} (hts : ∀ w ∈ xTs, w.before args s = true) : ∃ D : va_G, ∀ (k : Nat) (q : vw_C), vwCl[k]? = some q → u_Kn s q.1 q.2.1 q.2.2 (D.1 k) (D.2 k) := by
  have h0 : ∀ k : Nat, ∃ z : ClassId × (Nat → Nat), ∀ q : vw_C, vwCl[k]? = some q → u_Kn s q.1 q.2.1 q.2.2 z.1 z.2 := by
    intro k
    have key : ∀ (C : String) (T : u_T) (N : Nat) (ty : Nat → FieldType), xCl k C T N ty → Cond.instantiable C N ∈ xTs → ∃ z : ClassId × (Nat → Nat), ∀ q : vw_C, vwCl[k]? = some q → u_Kn s q.1 q.2.1 q.2.2 z.1 z.2 := by
      intro C T N ty hc hi
      obtain ⟨c, iS, h⟩ := u_known (C := C) (T := T) (N := N) (n := N) hts hc.2.1 (hts _ hi)
      refine ⟨(c, iS), fun q hq => ?_⟩
      have e : q = (C, T, N) := Option.some.inj (hq.symm.trans hc.1)
      subst e
      exact h
    match k with
    | 0 => exact key _ _ _ _ kX0 aX0
    | 1 => exact key _ _ _ _ kX1 aX1
    | 2 => exact key _ _ _ _ kX2 aX2
    | 3 => exact key _ _ _ _ kX3 aX3
    | 4 => exact key _ _ _ _ kX4 aX4
    | 5 => exact key _ _ _ _ kX5 aX5
    | 6 => exact key _ _ _ _ kX6 aX6
    | 7 => exact key _ _ _ _ kX7 aX7
    | 8 => exact key _ _ _ _ kX8 aX8
    | 9 => exact key _ _ _ _ kX9 aX9
    | 10 => exact key _ _ _ _ kX10 aX10
    | 11 => exact key _ _ _ _ kX11 aX11
    | k + 12 => exact ⟨(0, fun _ => 0), fun q hq => by simp [vwCl] at hq⟩
  obtain ⟨z, hz⟩ := Classical.axiomOfChoice h0
  exact ⟨(fun k => (z k).1, fun k => (z k).2), hz⟩
set_option maxHeartbeats 4000000 in
theorem x_start {p : Program} {s : State} {m : MethodId} {meth : Method} {c : Code} {b L : Nat} {xs : Nat → Int32} (C0 : lw_At p s m meth c b L xs) : ∃ G : xG, G.1 = s.heap.size ∧ G.2.2.2.2.2.1 = b ∧ G.2.2.2.2.2.2.1 = L ∧ xC (RL, cL_law, 4, some .boolean, false) p s m #[Value.ref b] meth c ∧ xB G [] s s.heap [] := by
  obtain ⟨hx, hb, hr, hml, hown, hts, hX, hbl, hlocks, hgv⟩ := C0
  have hts1 : ∀ w ∈ xTs, w.before #[Value.ref b] s = true := fun w h => hts w (xTs_lw w h)
  have hts2 : ∀ w ∈ tables_1, w.before #[Value.ref b] s = true := fun w h => hts w (List.mem_append_right _ h)
  have hfl := flat_of_before _ hgv
  obtain ⟨D, hD⟩ := x_cls hts1
  obtain ⟨cI, aI1, aI2⟩ := x_arr (fun _ h => by cases h) (hts1 _ arr_int)
  obtain ⟨cC, aC1, aC2⟩ := x_arr (fun _ h => by cases h) (hts1 _ arr_char)
  obtain ⟨cZ, aZ1, aZ2⟩ := x_arr (fun _ h => by cases h) (hts1 _ arr_boolean)
  have hA : ∀ a : Nat, a < s.heap.size → ¬ (fun q : Nat => s.heap.size ≤ q) a := fun a h => Nat.not_le.mpr h
  have h0 : ∀ i : Nat, ∃ q : Nat × Nat, i < xN → (xTm i).eval #[Value.ref b] s none [] s = some (.ref q.1) ∧ va_O "java/lang/String" q.1 (fun q : Nat => s.heap.size ≤ q) s s.heap ∧ va_OF "java/lang/String" "coder" "B" (.int 0) q.1 (fun q : Nat => s.heap.size ≤ q) s s.heap ∧ va_OF "java/lang/String" "value" "[B" (.ref q.2) q.1 (fun q : Nat => s.heap.size ≤ q) s s.heap ∧ va_T .byte q.2 (xLen.getD i 0) (fun j => .int ((xByt.getD i []).getD j 0)) (fun q : Nat => s.heap.size ≤ q) s s.heap := by
    intro i
    by_cases hi : i < xN
    · obtain ⟨adK, adV, hS, hE⟩ := vk_Sof (args := #[Value.ref b]) (s := s) (N := 1) (tm := fun _ => xTm i) (len := [xLen.getD i 0]) (byt := [xByt.getD i []]) (A := fun q : Nat => s.heap.size ≤ q)
        (fun j hj => by rw [show j = 0 by omega]; exact str_len i hi) (fun _ _ => hfl _ (xF_ex i hi)) (fun _ _ => hfl _ (xF_co i hi)) (fun _ _ => hfl _ (xF_ar i hi))
        (fun j hj => by rw [show j = 0 by omega]; exact hfl _ (xF_le i hi)) (fun j hj k hk => by
          rw [show j = 0 by omega] at hk ⊢
          exact hfl _ (xF_el i hi k hk)) (fun j k hj hk hne => absurd (by omega) hne) hA
      have q := hS.1 0 (by decide)
      exact ⟨(adK 0, adV 0), fun _ => ⟨hE 0 (by decide), q.1, q.2.1, q.2.2.1, q.2.2.2⟩⟩
    · exact ⟨(0, 0), fun h => absurd h hi⟩
  obtain ⟨ad, had⟩ := Classical.axiomOfChoice h0
  obtain ⟨v, hv1, hv2⟩ := Cond.isRef_spec (args := #[Value.ref b]) (first := s) (o := none) (s := s) (idx := []) (hfl _ xF_si)
  refine ⟨(s.heap.size, D, fun k => if k = 0 then cI else if k = 1 then cC else cZ, fun i => (ad i).1, fun i => (ad i).2, b, L, xs), rfl, rfl, rfl, ⟨hx, hb, hml, hown, hts1, hr, hlocks, fun h => by cases h⟩, ?_⟩
  refine ⟨by simp, fun k q h => by simp [xIx] at h, va_S.rf, ⟨hD, fun k q h => ?_⟩, fun q hq => va_Nw.of rfl (hts2 _ (xF_nw q hq)), ⟨fun i hi => (had i hi).2, fun q hq => ?_, va_Zof (hts2 _ xF_l1) (hts2 _ xF_i1) (va_eqt (hfl _ xF_cs)) hA, hX, hbl, v, ?_, va_Zof (hts2 _ xF_l2) (hts2 _ xF_i2) hv1 hA⟩, Nat.le_refl _, fun k e h => by simp at h, by unfold xCap; exact ⟨by decide, by decide⟩⟩
  · match k, h with
    | 0, h => cases h; exact ⟨aI1, aI2⟩
    | 1, h => cases h; exact ⟨aC1, aC2⟩
    | 2, h => cases h; exact ⟨aZ1, aZ2⟩
    | k + 3, h => simp [xTy] at h
  · obtain ⟨e1, e2⟩ := xF_tm q hq
    refine vk_R.of (A := #[Value.ref b]) (hts2 _ (xF_sr q hq)) ?_
    rw [← e1]
    exact (had _ e2).1
  · cases v <;> first | exact Or.inl rfl | exact Or.inr ⟨_, rfl⟩ | (simp [Value.isRef] at hv2)

