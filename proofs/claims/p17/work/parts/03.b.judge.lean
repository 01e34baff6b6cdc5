/-! MY OWN JUDGEMENT over the kit's W. The cells that the law and its callees make lie one behind the other from a base address on: a world is the LIST of their contents (cs), cell k at address base + k. Z: from here, in this method, with these locals, stack and cells, the method returns and Post holds of its answer and of the cells then. X: the contract of a method in the same words. No address is chosen, no frame is cut: what a method leaves alone stands in Post as equal cells. -/
abbrev xG : Type := Nat × va_G × (Nat → ClassId) × (Nat → Nat) × (Nat → Nat) × Nat × Nat × (Nat → Int32)
abbrev xM : Type := String × ByteArray × Nat × Option FieldType × Bool
def xA (G : xG) : Nat → Prop := fun q => G.1 ≤ q
def xIx (b : Nat) (cs : List va_E) : va_W := cs.mapIdx (fun k e => (b + k, e))
def xTy (G : xG) : List (ClassId × FieldType) := [(G.2.2.1 0, .int), (G.2.2.1 1, .char), (G.2.2.1 2, .boolean)]
def xTs : List Cond := lw_tbl.filter goodWord
theorem xIx_get (b : Nat) (cs : List va_E) (k : Nat) : (xIx b cs)[k]? = (cs[k]?).map (fun e => (b + k, e)) := by
  simp [xIx]
theorem xIx_at {b k : Nat} {cs : List va_E} {e : va_E} (h : cs[k]? = some e) : (xIx b cs)[k]? = some (b + k, e) := by
  rw [xIx_get, h]; rfl
theorem xIx_set (b : Nat) (cs : List va_E) (k : Nat) (e : va_E) : (xIx b cs).set k (b + k, e) = xIx b (cs.set k e) := by
  apply List.ext_getElem?
  intro i
  rw [xIx_get, List.getElem?_set, List.getElem?_set, xIx_get]
  by_cases h : k = i
  · subst h
    simp [xIx]
  · simp [h]
theorem xIx_push (b : Nat) (cs : List va_E) (e : va_E) : xIx b cs ++ [(b + cs.length, e)] = xIx b (cs ++ [e]) := by
  simp [xIx, List.mapIdx_append]
theorem xIx_D (G : xG) (cs : List va_E) : va_D (xA G) (xIx G.1 cs) := by
  refine ⟨fun i j p q hi hj e => ?_, fun k q h => ?_⟩
  · rw [xIx_get] at hi hj
    obtain ⟨x, -, hx⟩ := Option.map_eq_some_iff.mp hi
    obtain ⟨y, -, hy⟩ := Option.map_eq_some_iff.mp hj
    rw [← hx, ← hy] at e
    simp at e
    exact e
  · rw [xIx_get] at h
    obtain ⟨x, -, hx⟩ := Option.map_eq_some_iff.mp h
    rw [← hx]
    exact Nat.le_add_right _ _
-- how many slots a cell has; the room of the whole script
def xSzE : va_E → Nat
  | .inl a => a.2.1
  | .inr o => ((vwCl[o.1]?).map (fun q => q.2.2)).getD 0
def xZ (cs : List va_E) : Nat := (cs.map xSzE).sum
def xCap (cs : List va_E) : Prop := cs.length ≤ 600000 ∧ xZ cs ≤ 7302250
def xSz (b : Nat) (cs : List va_E) (H : Heap) : Prop := ∀ (k : Nat) (e : va_E), cs[k]? = some e → ∃ cell : Cell, H[b + k]? = some cell ∧ cell.slots.size = xSzE e
def xSum (b : Nat) (H : Heap) : Nat := ((H.toList.drop b).map (fun c => c.slots.size)).sum
theorem xSum_eq {b : Nat} {cs : List va_E} {H : Heap} (h : H.size = b + cs.length) (hs : xSz b cs H) : xSum b H = xZ cs := by
  unfold xSum xZ
  congr 1
  apply List.ext_getElem?
  intro i
  rw [List.getElem?_map, List.getElem?_map, List.getElem?_drop, Array.getElem?_toList]
  cases hi : cs[i]? with
  | none =>
    have : cs.length ≤ i := List.getElem?_eq_none_iff.mp hi
    rw [Array.getElem?_eq_none_iff.mpr (by omega)]
    rfl
  | some e =>
    obtain ⟨cell, h1, h2⟩ := hs i e hi
    rw [h1]
    simp [h2]
-- String constants and the links that go through a nest
def xStr (G : xG) (U : State) (H : Heap) : Prop := (∀ i : Nat, i < xN → va_O "java/lang/String" (G.2.2.2.1 i) (xA G) U H ∧ va_OF "java/lang/String" "coder" "B" (.int 0) (G.2.2.2.1 i) (xA G) U H ∧ va_OF "java/lang/String" "value" "[B" (.ref (G.2.2.2.2.1 i)) (G.2.2.2.1 i) (xA G) U H ∧ va_T .byte (G.2.2.2.2.1 i) (xLen.getD i 0) (fun j => .int ((xByt.getD i []).getD j 0)) (xA G) U H) ∧ (∀ q ∈ xStrs, vk_R q.1 q.2.1 q.2.2.1 (G.2.2.2.1 q.2.2.2) U) ∧ va_Z "java/lang/String" "COMPACT_STRINGS" "Z" (.int 1) (xA G) U H ∧ va_X G.2.2.2.2.2.1 G.2.2.2.2.2.2.1 G.2.2.2.2.2.2.2 U H ∧ G.2.2.2.2.2.1 < G.1 ∧ ∃ v : Value, (v = .null ∨ ∃ q : Nat, v = .ref q) ∧ va_Z "jdk/internal/util/Preconditions" "SIOOBE_FORMATTER" "Ljava/util/function/BiFunction;" v (xA G) U H
theorem xStr.alike {G : xG} {u U : State} {H : Heap} (hA : u.vm.Alike U.vm) (h : xStr G u H) (hr : ∀ q ∈ xStrs, vk_R q.1 q.2.1 q.2.2.1 (G.2.2.2.1 q.2.2.2) U) : xStr G U H := by
  obtain ⟨h1, -, h3, x1, x2, v, h4, h5⟩ := h
  exact ⟨fun i hi => ⟨va_O.moved hA (h1 i hi).1, va_OF.moved hA (h1 i hi).2.1, va_OF.moved hA (h1 i hi).2.2.1, va_T.moved hA (h1 i hi).2.2.2⟩, hr, va_Z.moved hA h3, va_X.moved hA x1, x2, v, h4, va_Z.moved hA h5⟩
theorem xStr.warm {G : xG} {s U : State} {H : Heap} (hW : s.WarmedH U.vm) (h : xStr G s H) : xStr G U H := h.alike hW.alike fun q hq => vk_R.warm hW (h.2.1 q hq)
theorem xStr.kept {G : xG} {U : State} {H H1 : Heap} (h : xStr G U H) (hq : ∀ a : Nat, a < H.size → ¬ xA G a → H1[a]? = H[a]?) : xStr G U H1 := by
  obtain ⟨h1, h2, h3, x1, x2, v, h4, h5⟩ := h
  exact ⟨fun i hi => ⟨(h1 i hi).1.kept hq, (h1 i hi).2.1.kept hq, (h1 i hi).2.2.1.kept hq, (h1 i hi).2.2.2.kept hq⟩, h2, h3.kept hq, x1.kept (hq _ (Array.getElem?_eq_some_iff.mp x1.choose_spec.1).1 (Nat.not_le.mpr x2)), x2, v, h4, h5.kept hq⟩
theorem xStr.same {G : xG} {u U : State} {H : Heap} (hv : U.vm = u.vm) (h : xStr G u H) : xStr G U H := h.alike (by rw [hv]; exact Vm.Alike.refl _) fun q hq => vk_R.same hv (h.2.1 q hq)
def xNw (U : State) : Prop := ∀ q ∈ xNest, va_Nw (.methodLinkNest q.1 q.2.1 q.2.2.1 q.2.2.2) U
theorem xNw.warm {s U : State} (hW : s.WarmedH U.vm) (h : xNw s) : xNw U := fun q hq => va_Nw.warmM hW (h q hq)
theorem xNw.same {u U : State} (hv : U.vm = u.vm) (h : xNw u) : xNw U := fun q hq => va_Nw.same rfl hv.symm (h q hq)
/-- a state holds the cells cs -/
def xW (G : xG) (cs : List va_E) (U : State) : Prop := U.heap.size = G.1 + cs.length ∧ va_P G.2.1 vwCl (xIx G.1 cs) U.heap ∧ va_K G.2.1 vwCl (xTy G) U ∧ xNw U ∧ xStr G U U.heap ∧ xSz G.1 cs U.heap ∧ xCap cs
/-- within a method that was entered at s: the heap H holds the cells cs -/
def xB (G : xG) (cs : List va_E) (s : State) (H : Heap) (locs : List Loc) : Prop := H.size = G.1 + cs.length ∧ va_P G.2.1 vwCl (xIx G.1 cs) H ∧ va_S (xA G) s.heap H locs ∧ va_K G.2.1 vwCl (xTy G) s ∧ xNw s ∧ xStr G s s.heap ∧ G.1 ≤ s.heap.size ∧ xSz G.1 cs H ∧ xCap cs
theorem xB.toW {G : xG} {cs : List va_E} {s U : State} {H : Heap} {locs : List Loc} (h : xB G cs s H locs) (hU : U.heap = H) (hW : s.WarmedH U.vm) : xW G cs U := by
  obtain ⟨h1, h2, h3, h4, h5, h6, h7, h8, h9⟩ := h
  subst hU
  exact ⟨h1, h2, va_K.moved hW.alike h4, h5.warm hW, (h6.kept h3.2.1).warm hW, h8, h9⟩
theorem xW.toB {G : xG} {cs : List va_E} {s : State} (h : xW G cs s) : xB G cs s s.heap [] := by
  obtain ⟨h1, h2, h3, h4, h5, h6, h7⟩ := h
  exact ⟨h1, h2, va_S.rf, h3, h4, h5, by omega, h6, h7⟩
theorem xW_blind {G : xG} {cs : List va_E} {As : List Value} : FrameBlind (fun a U => a = As.toArray ∧ xW G cs U) := by
  intro a U g mk h
  obtain ⟨h0, h1, h2, h3, h4, h5, h6⟩ := h
  exact ⟨h0, h1, h2, va_K.moved (u := U) (U := U.calling g mk a) (Vm.Alike.refl U.vm) h3, h4.same rfl, h5.same rfl, h6⟩
/-- behind a call -/
theorem xB.back {G : xG} {cs cs' : List va_E} {s st t : State} {H : Heap} {locs Lc : List Loc} (h : xB G cs s H locs) (hst : st.heap = H) (hw : xW G cs' t) (hF : va_F (xA G) st t) (hL : ∀ q ∈ Lc, xA G q.base) : xB G cs' s t.heap (locs ++ Lc) := by
  obtain ⟨h1, h2, h3, h4, h5, h6, h7, h8⟩ := h
  obtain ⟨g1, g2, g3, g4, g5, g6⟩ := hw
  subst hst
  refine ⟨g1, g2, ⟨Nat.le_trans h3.1 hF.1, fun q hq hA => ?_, fun q hq => ?_⟩, h4, h5, h6, h7, g6⟩
  · rw [hF.2 q (Nat.lt_of_lt_of_le hq h3.1) hA]
    exact h3.2.1 q hq hA
  · rcases List.mem_append.mp hq with h | h
    · exact h3.2.2 q h
    · exact hL q h
/-- the counters of W may be taken exactly: what the heap holds is known -/
theorem x_tight {p : Program} {l : Launch} {e : Env} {R : Room} {s : State} {m : MethodId} {args : Array Value} {below : List Frame} {meth : Method} {c : Code} {H : Heap} {locs : List Loc} {cells slots : Nat} {Q : State → Prop} {g : JFrame} {G : xG} {cs : List va_E} (hB : xB G cs s H locs)
    (h : xSum G.1 s.heap ≤ xZ cs → W p l e R s m args below meth c H locs (G.1 + cs.length - s.heap.size) (xZ cs - xSum G.1 s.heap) Q g) : W p l e R s m args below meth c H locs cells slots Q g := by
  intro T hT X
  obtain ⟨a1, a2, a3, a4, a5, a6⟩ := X.same
  have hh : (T.setVm s.vm).heap = H := hT
  rw [hh] at a2 a3 a4 a5 a6
  have e1 := xSum_eq hB.1 hB.2.2.2.2.2.2.2.1
  have hb := hB.2.2.2.2.2.2.1
  have key : xSum G.1 H = xSum G.1 s.heap + ((H.toList.drop s.heap.size).map (fun c => c.slots.size)).sum := by
    unfold xSum
    have e2 : H.toList.drop G.1 = (H.toList.take s.heap.size).drop G.1 ++ H.toList.drop s.heap.size := by
      conv => lhs; rw [← List.take_append_drop s.heap.size H.toList]
      rw [List.drop_append]
      congr 1
      rw [List.length_take, Array.length_toList, Nat.min_eq_left a2, Nat.sub_eq_zero_of_le hb, List.drop_zero]
    rw [e2, List.map_append, List.sum_append]
    congr 2
    apply List.ext_getElem?
    intro i
    rw [List.getElem?_map, List.getElem?_map, List.getElem?_drop, List.getElem?_drop]
    by_cases hi : G.1 + i < s.heap.size
    · rw [List.getElem?_take_of_lt hi, Array.getElem?_toList, Array.getElem?_toList]
      obtain ⟨c0, hc0⟩ : ∃ c0, s.heap[G.1 + i]? = some c0 := ⟨_, Array.getElem?_eq_getElem hi⟩
      obtain ⟨c1, g1, -, g3, -⟩ := a6 _ _ hc0
      rw [hc0, g1]
      simp [g3]
    · rw [List.getElem?_take_eq_none (by omega), Array.getElem?_toList, Array.getElem?_eq_none_iff.mpr (by omega)]
  refine h (by omega) T hT { X with same := ⟨a1, by rw [hh]; exact a2, ?_, by rw [hh]; exact a4, ?_, by rw [hh]; exact a6⟩ }
  · rw [hh, hB.1]
    have := hB.1
    omega
  · rw [hh]
    show ((H.toList.drop s.heap.size).map (fun c => c.slots.size)).sum ≤ _
    omega
/-- what stays while a method runs -/
def xC (M : xM) (p : Program) (s : State) (m : MethodId) (args : Array Value) (meth : Method) (c : Code) : Prop := p.tables.exec = Jvm.exec ∧ c.code = M.2.1 ∧ c.maxLocals = M.2.2.1 ∧ s.vm.findClass M.1 = some m.cls ∧ (∀ w ∈ xTs, w.before args s = true) ∧ meth.sig.returnType = M.2.2.2.1 ∧ meth.locks = false ∧ (M.2.2.2.2 = true → meth.name = "<init>")
def xRet (M : xM) (pc : Nat) (r : Option Value) : Prop := match r with
  | none => decode M.2.1 pc = .ok (.return_, 1) ∧ M.2.2.2.1 = none
  | some (.int v) => decode M.2.1 pc = .ok (.ireturn, 1) ∧ ∃ ty, M.2.2.2.1 = some ty ∧ narrow ty (.int v) = .int v
  | some (.long _) => decode M.2.1 pc = .ok (.lreturn, 1) ∧ M.2.2.2.1 = some .long
  | some (.ref _) => decode M.2.1 pc = .ok (.areturn, 1) ∧ ∃ rt, M.2.2.2.1 = some rt ∧ ((∃ n, rt = .object n) ∨ ∃ t, rt = .array t)
  | _ => False
abbrev xP : Type := Option Value → List va_E → Prop
def xRoom (R : Room) (d : Nat) (G : xG) (s : State) : Prop := d ≤ R.frames ∧ 40 * d ≤ R.locals ∧ G.1 + 600000 ≤ s.heap.size + R.cells ∧ 7302250 ≤ xSum G.1 s.heap + R.slots
def Z (M : xM) (G : xG) (d : Nat) (Post : xP) (pc : Nat) (L : List (Nat × Value)) (st : List Value) (cs : List va_E) : Prop :=
  ∀ (p : Program) (l : Launch) (e : Env) (R : Room) (s : State) (m : MethodId) (args : Array Value) (below : List Frame) (meth : Method) (c : Code) (H : Heap) (locs : List Loc) (cells slots : Nat) (ls : Array Slot) (Q : State → Prop),
    xC M p s m args meth c → xB G cs s H locs → lv_has ls M.2.2.1 L → xRoom R d G s →
    (∀ (r : Option Value) (cs' : List va_E) (H' : Heap) (locs' : List Loc) (cells' slots' pc' : Nat) (ls' : Array Slot), Post r cs' → xB G cs' s H' locs' → xRet M pc' r → W p l e R s m args below meth c H' locs' cells' slots' Q (F0 m pc' ls' r.toList)) →
    W p l e R s m args below meth c H locs cells slots Q (F0 m pc ls st)
def xQ (G : xG) (Post : xP) : Array Value → State → Outcome → State → Prop := fun _ st oc t => (∃ (r : Option Value) (cs : List va_E), oc = .returned r ∧ Post r cs ∧ xW G cs t) ∧ va_F (xA G) st t
def xRm (d : Nat) (cs : List va_E) : Room := { frames := d, cells := 600000 - cs.length, slots := 7302250 - xZ cs, locals := 40 * d }
/-- the contract of a method: called with As where the cells are cs, at most d frames deep -/
def X (G : xG) (y : MethodName) (cc : ByteArray) (nL : Nat) (ret : Option FieldType) (d : Nat) (As : List Value) (cs : List va_E) (Post : xP) : Prop :=
  ∀ l : Launch, Met l y (Cond.code y cc nL ret :: xTs) (xRm d cs) (fun a U => a = As.toArray ∧ xW G cs U) (xQ G Post) (600000 - cs.length) (7302250 - xZ cs) (xA G)
set_option maxHeartbeats 4000000 in
theorem X.of {G : xG} {y : MethodName} {cc : ByteArray} {nL : Nat} {ret : Option FieldType} {d : Nat} {As : List Value} {cs : List va_E} {Post : xP} (ini : Bool) (hy : plainName y.cls = true) (hi : ini = true → y.name = "<init>") (hlen : (lg_sl As).length ≤ nL)
    (h : Z (y.cls, cc, nL, ret, ini) G d Post 0 (lv_args 0 As) [] cs) : X G y cc nL ret d As cs Post := by
  intro l
  refine Met.ofW (cc := cc) (maxL := nL) (ret := ret) hy rfl ?_
  intro p e s m args below meth c s₁ B hml hv
  obtain ⟨rfl, hw⟩ := hv
  have hx := B.exec
  have hb := B.bytes
  have hr := B.returns
  have hts := atoms_spec (ws := Cond.code y cc nL ret :: xTs) B.pre
  have hown : s.vm.findClass y.cls = some m.cls := findClass_of_methodNamed B.named
  have hlocks := B.notSynchronized
  have hl := lv_entry As (n := nL) hlen
  rw [lg_entry_eq]
  generalize (lg_sl As ++ List.replicate (nL - (lg_sl As).length) Slot.unset).toArray = ls at hl ⊢
  have hz : xSum G.1 s.heap = xZ cs := xSum_eq hw.1 hw.2.2.2.2.2.1
  have hs := hw.1
  have hcap := hw.2.2.2.2.2.2
  refine h p l e _ s m _ below meth c s.heap [] 0 0 ls _ ⟨hx, hb, hml, hown, fun w hw => hts w (List.mem_cons_of_mem _ hw), hr, hlocks, fun q => ?_⟩ hw.toB hl ⟨Nat.le_refl _, Nat.le_refl _, ?_, ?_⟩ ?_
  · rw [(name_of_methodNamed B.named B.method).1]
    exact hi q
  · show G.1 + 600000 ≤ s.heap.size + (600000 - cs.length)
    omega
  · show 7302250 ≤ xSum G.1 s.heap + (7302250 - xZ cs)
    omega
  · intro r cs' H' locs' cells' slots' pc' ls' hp hB hret
    refine x_tight hB fun hzz => ?_
    have hcap' := hB.2.2.2.2.2.2.2.2
    refine W.widen (k := 600000 - cs.length) (n := 7302250 - xZ cs) (by unfold xCap at hcap'; omega) (by unfold xCap at hcap'; omega) ?_
    have key : ∀ t : State, t.heap = H' → s.WarmedH t.vm → xQ G Post As.toArray s (.returned r) t := fun t ht hW => ⟨⟨r, cs', rfl, hp, hB.toW ht hW⟩, hB.2.2.1.F ht⟩
    match r, hret, key with
    | none, hret, key => exact W.vret hx hb (by rw [hr]; exact hret.2) key hB.2.2.1.2.2 hret.1
    | some (.int v), hret, key =>
      obtain ⟨h1, ty, h2, h3⟩ := hret
      exact W.zret hx hb (by rw [hr]; exact h2) h3 key hB.2.2.1.2.2 h1
    | some (.long v), hret, key => exact W.lret hx hb (by rw [hr]; exact hret.2) key hB.2.2.1.2.2 hret.1
    | some (.ref a), hret, key =>
      obtain ⟨h1, rt, h2, h3⟩ := hret
      exact W.aret hx hb (by rw [hr]; exact h2) h3 (Or.inr ⟨a, rfl⟩) key hB.2.2.1.2.2 h1

