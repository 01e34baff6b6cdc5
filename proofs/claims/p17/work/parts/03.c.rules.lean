/-! THE RULES: one for each instruction. -/
def xLk : List (Nat × Value) → Nat → Option Value
  | [], _ => none
  | q :: t, i => if q.1 = i then some q.2 else xLk t i
theorem xLk_mem {i : Nat} {v : Value} : ∀ {L : List (Nat × Value)}, xLk L i = some v → (i, v) ∈ L
  | [], h => by simp [xLk] at h
  | q :: t, h => by
    unfold xLk at h
    by_cases e : q.1 = i
    · rw [if_pos e] at h
      cases h
      subst e
      exact List.mem_cons_self
    · rw [if_neg e] at h
      exact List.mem_cons_of_mem _ (xLk_mem h)
/-- a local gets a value: in its place, or behind all -/
def xPut : List (Nat × Value) → Nat → Value → List (Nat × Value)
  | [], i, v => [(i, v)]
  | q :: t, i, v => if q.1 = i then (i, v) :: t.filter (fun q => !(q.1 == i)) else q :: xPut t i v
theorem xPut_mem {i : Nat} {v : Value} {q : Nat × Value} : ∀ {L : List (Nat × Value)}, q ∈ xPut L i v → q = (i, v) ∨ (q ∈ L ∧ ¬ q.1 = i)
  | [], h => by
    simp [xPut] at h
    exact Or.inl h
  | r :: t, h => by
    unfold xPut at h
    by_cases e : r.1 = i
    · rw [if_pos e] at h
      rcases List.mem_cons.mp h with h | h
      · exact Or.inl h
      · have h2 := List.mem_filter.mp h
        exact Or.inr ⟨List.mem_cons_of_mem _ h2.1, by simpa using h2.2⟩
    · rw [if_neg e] at h
      rcases List.mem_cons.mp h with h | h
      · subst h
        exact Or.inr ⟨List.mem_cons_self, e⟩
      · rcases xPut_mem h with h | h
        · exact Or.inl h
        · exact Or.inr ⟨List.mem_cons_of_mem _ h.1, h.2⟩
def xSto1 (L : List (Nat × Value)) (i : Nat) (v : Value) : List (Nat × Value) := xPut (L.filter (fun q => !(q.1 + 1 == i && q.2.category == 2))) i v
def xSto2 (L : List (Nat × Value)) (i : Nat) (v : Value) : List (Nat × Value) := xPut (L.filter (fun q => (!(q.1 == i + 1) && !(q.1 + 1 == i && q.2.category == 2)))) i v
theorem xSto1_has {ls : Array Slot} {nL i : Nat} {L : List (Nat × Value)} {v : Value} (h : lv_has ls nL ((i, v) :: L.filter (fun q => !(q.1 == i) && !(q.1 + 1 == i && q.2.category == 2)))) : lv_has ls nL (xSto1 L i v) := by
  refine ⟨h.1, h.2.1, fun q hq => h.2.2 q ?_⟩
  rcases xPut_mem hq with e | ⟨h1, h2⟩
  · rw [e]; exact List.mem_cons_self
  · have h3 := List.mem_filter.mp h1
    exact List.mem_cons_of_mem _ (List.mem_filter.mpr ⟨h3.1, by rw [Bool.and_eq_true]; exact ⟨by simpa using h2, h3.2⟩⟩)
theorem xSto2_has {ls : Array Slot} {nL i : Nat} {L : List (Nat × Value)} {v : Value} (h : lv_has ls nL ((i, v) :: L.filter (fun q => !(q.1 == i) && (!(q.1 == i + 1) && !(q.1 + 1 == i && q.2.category == 2))))) : lv_has ls nL (xSto2 L i v) := by
  refine ⟨h.1, h.2.1, fun q hq => h.2.2 q ?_⟩
  rcases xPut_mem hq with e | ⟨h1, h2⟩
  · rw [e]; exact List.mem_cons_self
  · have h3 := List.mem_filter.mp h1
    exact List.mem_cons_of_mem _ (List.mem_filter.mpr ⟨h3.1, by rw [Bool.and_eq_true]; exact ⟨by simpa using h2, h3.2⟩⟩)
section ZR
variable {own : String} {cc : ByteArray} {nL : Nat} {ret : Option FieldType} {ini : Bool} {G : xG} {d : Nat} {Post : xP} {pc : Nat} {L : List (Nat × Value)} {rest : List Value} {cs : List va_E}

theorem z_iconst {n : Int} {v : Int32} (hdg : decode cc pc = .ok (.iconst n, 1)) (hv : Int32.ofInt n = v) (kk : Z (own, cc, nL, ret, ini) G d Post (pc + 1) L (.int v :: rest) cs) : Z (own, cc, nL, ret, ini) G d Post (pc) L (rest) cs := by
  intro p l e R s m args below meth c H locs cells slots ls Q hC hB hL hR hq
  exact lv_iconst hC.1 hC.2.1 hdg hv (kk p l e R s m args below meth c H locs cells slots ls Q hC hB hL hR hq)

theorem z_bipush {n : Int} {v : Int32} (hdg : decode cc pc = .ok (.bipush n, 2)) (hv : (Int8.ofInt n).toInt32 = v) (kk : Z (own, cc, nL, ret, ini) G d Post (pc + 2) L (.int v :: rest) cs) : Z (own, cc, nL, ret, ini) G d Post (pc) L (rest) cs := by
  intro p l e R s m args below meth c H locs cells slots ls Q hC hB hL hR hq
  exact lv_bipush hC.1 hC.2.1 hdg hv (kk p l e R s m args below meth c H locs cells slots ls Q hC hB hL hR hq)

theorem z_sipush {n : Int} {v : Int32} (hdg : decode cc pc = .ok (.sipush n, 3)) (hv : (Int16.ofInt n).toInt32 = v) (kk : Z (own, cc, nL, ret, ini) G d Post (pc + 3) L (.int v :: rest) cs) : Z (own, cc, nL, ret, ini) G d Post (pc) L (rest) cs := by
  intro p l e R s m args below meth c H locs cells slots ls Q hC hB hL hR hq
  exact lv_sipush hC.1 hC.2.1 hdg hv (kk p l e R s m args below meth c H locs cells slots ls Q hC hB hL hR hq)

theorem z_lconst {n : Fin 2} {v : Int64} (hdg : decode cc pc = .ok (.lconst n, 1)) (hv : Int64.ofNat (n : Nat) = v) (kk : Z (own, cc, nL, ret, ini) G d Post (pc + 1) L (.long v :: rest) cs) : Z (own, cc, nL, ret, ini) G d Post (pc) L (rest) cs := by
  intro p l e R s m args below meth c H locs cells slots ls Q hC hB hL hR hq
  exact lv_lconst hC.1 hC.2.1 hdg hv (kk p l e R s m args below meth c H locs cells slots ls Q hC hB hL hR hq)

theorem z_ldc2 {index : Nat} {v : Int64} (hc : Cond.constantLong own index v ∈ xTs) (hdg : decode cc pc = .ok (.ldc2_w index, 3)) (kk : Z (own, cc, nL, ret, ini) G d Post (pc + 3) L (.long v :: rest) cs) : Z (own, cc, nL, ret, ini) G d Post (pc) L (rest) cs := by
  intro p l e R s m args below meth c H locs cells slots ls Q hC hB hL hR hq
  exact lv_ldc2 hC.1 hC.2.1 hC.2.2.2.1 (hC.2.2.2.2.1 _ hc) hdg (kk p l e R s m args below meth c H locs cells slots ls Q hC hB hL hR hq)

theorem z_iload_n {k : Fin 4} {i : Nat} {x : Int32} (hdg : decode cc pc = .ok (.iload_n k, 1)) (hi : (k : Nat) = i) (hl : xLk L i = some (.int x)) (kk : Z (own, cc, nL, ret, ini) G d Post (pc + 1) L (.int x :: rest) cs) : Z (own, cc, nL, ret, ini) G d Post (pc) L (rest) cs := by
  intro p l e R s m args below meth c H locs cells slots ls Q hC hB hL hR hq
  exact lv_iload_n hC.1 hC.2.1 hdg hi (hL.2.2 _ (xLk_mem hl)) (kk p l e R s m args below meth c H locs cells slots ls Q hC hB hL hR hq)

theorem z_iload {i : Nat} {x : Int32} (hdg : decode cc pc = .ok (.iload i, 2)) (hl : xLk L i = some (.int x)) (kk : Z (own, cc, nL, ret, ini) G d Post (pc + 2) L (.int x :: rest) cs) : Z (own, cc, nL, ret, ini) G d Post (pc) L (rest) cs := by
  intro p l e R s m args below meth c H locs cells slots ls Q hC hB hL hR hq
  exact lv_iload hC.1 hC.2.1 hdg (hL.2.2 _ (xLk_mem hl)) (kk p l e R s m args below meth c H locs cells slots ls Q hC hB hL hR hq)

theorem z_lload_n {k : Fin 4} {i : Nat} {x : Int64} (hdg : decode cc pc = .ok (.lload_n k, 1)) (hi : (k : Nat) = i) (hl : xLk L i = some (.long x)) (kk : Z (own, cc, nL, ret, ini) G d Post (pc + 1) L (.long x :: rest) cs) : Z (own, cc, nL, ret, ini) G d Post (pc) L (rest) cs := by
  intro p l e R s m args below meth c H locs cells slots ls Q hC hB hL hR hq
  exact lv_lload_n hC.1 hC.2.1 hdg hi (hL.2.2 _ (xLk_mem hl)) (kk p l e R s m args below meth c H locs cells slots ls Q hC hB hL hR hq)

theorem z_lload {i : Nat} {x : Int64} (hdg : decode cc pc = .ok (.lload i, 2)) (hl : xLk L i = some (.long x)) (kk : Z (own, cc, nL, ret, ini) G d Post (pc + 2) L (.long x :: rest) cs) : Z (own, cc, nL, ret, ini) G d Post (pc) L (rest) cs := by
  intro p l e R s m args below meth c H locs cells slots ls Q hC hB hL hR hq
  exact lv_lload hC.1 hC.2.1 hdg (hL.2.2 _ (xLk_mem hl)) (kk p l e R s m args below meth c H locs cells slots ls Q hC hB hL hR hq)

theorem z_aload_n {k : Fin 4} {i : Nat} {x : Nat} (hdg : decode cc pc = .ok (.aload_n k, 1)) (hi : (k : Nat) = i) (hl : xLk L i = some (.ref x)) (kk : Z (own, cc, nL, ret, ini) G d Post (pc + 1) L (.ref x :: rest) cs) : Z (own, cc, nL, ret, ini) G d Post (pc) L (rest) cs := by
  intro p l e R s m args below meth c H locs cells slots ls Q hC hB hL hR hq
  exact lv_aload_n hC.1 hC.2.1 hdg hi (hL.2.2 _ (xLk_mem hl)) (kk p l e R s m args below meth c H locs cells slots ls Q hC hB hL hR hq)

theorem z_aload {i : Nat} {x : Nat} (hdg : decode cc pc = .ok (.aload i, 2)) (hl : xLk L i = some (.ref x)) (kk : Z (own, cc, nL, ret, ini) G d Post (pc + 2) L (.ref x :: rest) cs) : Z (own, cc, nL, ret, ini) G d Post (pc) L (rest) cs := by
  intro p l e R s m args below meth c H locs cells slots ls Q hC hB hL hR hq
  exact lv_aload hC.1 hC.2.1 hdg (hL.2.2 _ (xLk_mem hl)) (kk p l e R s m args below meth c H locs cells slots ls Q hC hB hL hR hq)

theorem z_istore_n {k : Fin 4} {i : Nat} {x : Int32} (hdg : decode cc pc = .ok (.istore_n k, 1)) (hi : (k : Nat) = i) (hn : i < nL) (kk : Z (own, cc, nL, ret, ini) G d Post (pc + 1) (xSto1 L i (.int x)) rest cs) : Z (own, cc, nL, ret, ini) G d Post (pc) L (.int x :: rest) cs := by
  intro p l e R s m args below meth c H locs cells slots ls Q hC hB hL hR hq
  exact lv_istore_n hC.1 hC.2.1 hdg hi hL hn rfl (fun ls hL => kk p l e R s m args below meth c H locs cells slots ls Q hC hB (xSto1_has hL) hR hq)

theorem z_istore {i : Nat} {x : Int32} (hdg : decode cc pc = .ok (.istore i, 2)) (hn : i < nL) (kk : Z (own, cc, nL, ret, ini) G d Post (pc + 2) (xSto1 L i (.int x)) rest cs) : Z (own, cc, nL, ret, ini) G d Post (pc) L (.int x :: rest) cs := by
  intro p l e R s m args below meth c H locs cells slots ls Q hC hB hL hR hq
  exact lv_istore hC.1 hC.2.1 hdg hL hn rfl (fun ls hL => kk p l e R s m args below meth c H locs cells slots ls Q hC hB (xSto1_has hL) hR hq)

theorem z_astore_n {k : Fin 4} {i : Nat} {x : Nat} (hdg : decode cc pc = .ok (.astore_n k, 1)) (hi : (k : Nat) = i) (hn : i < nL) (kk : Z (own, cc, nL, ret, ini) G d Post (pc + 1) (xSto1 L i (.ref x)) rest cs) : Z (own, cc, nL, ret, ini) G d Post (pc) L (.ref x :: rest) cs := by
  intro p l e R s m args below meth c H locs cells slots ls Q hC hB hL hR hq
  exact lv_astore_n hC.1 hC.2.1 hdg hi hL hn rfl (fun ls hL => kk p l e R s m args below meth c H locs cells slots ls Q hC hB (xSto1_has hL) hR hq)

theorem z_astore {i : Nat} {x : Nat} (hdg : decode cc pc = .ok (.astore i, 2)) (hn : i < nL) (kk : Z (own, cc, nL, ret, ini) G d Post (pc + 2) (xSto1 L i (.ref x)) rest cs) : Z (own, cc, nL, ret, ini) G d Post (pc) L (.ref x :: rest) cs := by
  intro p l e R s m args below meth c H locs cells slots ls Q hC hB hL hR hq
  exact lv_astore hC.1 hC.2.1 hdg hL hn rfl (fun ls hL => kk p l e R s m args below meth c H locs cells slots ls Q hC hB (xSto1_has hL) hR hq)

theorem z_lstore_n {k : Fin 4} {i : Nat} {x : Int64} (hdg : decode cc pc = .ok (.lstore_n k, 1)) (hi : (k : Nat) = i) (hn : i + 1 < nL) (kk : Z (own, cc, nL, ret, ini) G d Post (pc + 1) (xSto2 L i (.long x)) rest cs) : Z (own, cc, nL, ret, ini) G d Post (pc) L (.long x :: rest) cs := by
  intro p l e R s m args below meth c H locs cells slots ls Q hC hB hL hR hq
  exact lv_lstore_n hC.1 hC.2.1 hdg hi hL hn rfl (fun ls hL => kk p l e R s m args below meth c H locs cells slots ls Q hC hB (xSto2_has hL) hR hq)

theorem z_lstore {i : Nat} {x : Int64} (hdg : decode cc pc = .ok (.lstore i, 2)) (hn : i + 1 < nL) (kk : Z (own, cc, nL, ret, ini) G d Post (pc + 2) (xSto2 L i (.long x)) rest cs) : Z (own, cc, nL, ret, ini) G d Post (pc) L (.long x :: rest) cs := by
  intro p l e R s m args below meth c H locs cells slots ls Q hC hB hL hR hq
  exact lv_lstore hC.1 hC.2.1 hdg hL hn rfl (fun ls hL => kk p l e R s m args below meth c H locs cells slots ls Q hC hB (xSto2_has hL) hR hq)

theorem z_iinc {i : Nat} {n : Int} {x v : Int32} (hdg : decode cc pc = .ok (.iinc i n, 3)) (hl : xLk L i = some (.int x)) (hv : x + Int32.ofInt n = v) (hn : i < nL) (kk : Z (own, cc, nL, ret, ini) G d Post (pc + 3) (xSto1 L i (.int v)) rest cs) : Z (own, cc, nL, ret, ini) G d Post (pc) L (rest) cs := by
  intro p l e R s m args below meth c H locs cells slots ls Q hC hB hL hR hq
  obtain ⟨k, hk⟩ := List.getElem?_of_mem (xLk_mem hl)
  exact lv_iinc hC.1 hC.2.1 hdg hL hk hv hn rfl (fun ls hL => kk p l e R s m args below meth c H locs cells slots ls Q hC hB (xSto1_has hL) hR hq)

theorem z_iadd {x y : Int32} (hdg : decode cc pc = .ok (.iadd, 1)) (kk : Z (own, cc, nL, ret, ini) G d Post (pc + 1) L (.int (x + y) :: rest) cs) : Z (own, cc, nL, ret, ini) G d Post (pc) L (.int y :: .int x :: rest) cs := by
  intro p l e R s m args below meth c H locs cells slots ls Q hC hB hL hR hq
  exact lv_iadd hC.1 hC.2.1 hdg (kk p l e R s m args below meth c H locs cells slots ls Q hC hB hL hR hq)

theorem z_isub {x y : Int32} (hdg : decode cc pc = .ok (.isub, 1)) (kk : Z (own, cc, nL, ret, ini) G d Post (pc + 1) L (.int (x - y) :: rest) cs) : Z (own, cc, nL, ret, ini) G d Post (pc) L (.int y :: .int x :: rest) cs := by
  intro p l e R s m args below meth c H locs cells slots ls Q hC hB hL hR hq
  exact lv_isub hC.1 hC.2.1 hdg (kk p l e R s m args below meth c H locs cells slots ls Q hC hB hL hR hq)

theorem z_imul {x y : Int32} (hdg : decode cc pc = .ok (.imul, 1)) (kk : Z (own, cc, nL, ret, ini) G d Post (pc + 1) L (.int (x * y) :: rest) cs) : Z (own, cc, nL, ret, ini) G d Post (pc) L (.int y :: .int x :: rest) cs := by
  intro p l e R s m args below meth c H locs cells slots ls Q hC hB hL hR hq
  exact lv_imul hC.1 hC.2.1 hdg (kk p l e R s m args below meth c H locs cells slots ls Q hC hB hL hR hq)

theorem z_iand {x y : Int32} (hdg : decode cc pc = .ok (.iand, 1)) (kk : Z (own, cc, nL, ret, ini) G d Post (pc + 1) L (.int (x &&& y) :: rest) cs) : Z (own, cc, nL, ret, ini) G d Post (pc) L (.int y :: .int x :: rest) cs := by
  intro p l e R s m args below meth c H locs cells slots ls Q hC hB hL hR hq
  exact lv_iand hC.1 hC.2.1 hdg (kk p l e R s m args below meth c H locs cells slots ls Q hC hB hL hR hq)

theorem z_ior {x y : Int32} (hdg : decode cc pc = .ok (.ior, 1)) (kk : Z (own, cc, nL, ret, ini) G d Post (pc + 1) L (.int (x ||| y) :: rest) cs) : Z (own, cc, nL, ret, ini) G d Post (pc) L (.int y :: .int x :: rest) cs := by
  intro p l e R s m args below meth c H locs cells slots ls Q hC hB hL hR hq
  exact lv_ior hC.1 hC.2.1 hdg (kk p l e R s m args below meth c H locs cells slots ls Q hC hB hL hR hq)

theorem z_ishl {x y : Int32} (hdg : decode cc pc = .ok (.ishl, 1)) (kk : Z (own, cc, nL, ret, ini) G d Post (pc + 1) L (.int (x <<< (y &&& 31)) :: rest) cs) : Z (own, cc, nL, ret, ini) G d Post (pc) L (.int y :: .int x :: rest) cs := by
  intro p l e R s m args below meth c H locs cells slots ls Q hC hB hL hR hq
  exact lv_ishl hC.1 hC.2.1 hdg (kk p l e R s m args below meth c H locs cells slots ls Q hC hB hL hR hq)

theorem z_ishr {x y : Int32} (hdg : decode cc pc = .ok (.ishr, 1)) (kk : Z (own, cc, nL, ret, ini) G d Post (pc + 1) L (.int (x >>> (y &&& 31)) :: rest) cs) : Z (own, cc, nL, ret, ini) G d Post (pc) L (.int y :: .int x :: rest) cs := by
  intro p l e R s m args below meth c H locs cells slots ls Q hC hB hL hR hq
  exact lv_ishr hC.1 hC.2.1 hdg (kk p l e R s m args below meth c H locs cells slots ls Q hC hB hL hR hq)

theorem z_idiv {x y : Int32} (hdg : decode cc pc = .ok (.idiv, 1)) (hne : ¬ y = 0) (kk : Z (own, cc, nL, ret, ini) G d Post (pc + 1) L (.int (x / y) :: rest) cs) : Z (own, cc, nL, ret, ini) G d Post (pc) L (.int y :: .int x :: rest) cs := by
  intro p l e R s m args below meth c H locs cells slots ls Q hC hB hL hR hq
  exact lv_idiv hC.1 hC.2.1 hdg hne (kk p l e R s m args below meth c H locs cells slots ls Q hC hB hL hR hq)

theorem z_irem {x y : Int32} (hdg : decode cc pc = .ok (.irem, 1)) (hne : ¬ y = 0) (kk : Z (own, cc, nL, ret, ini) G d Post (pc + 1) L (.int (x - x / y * y) :: rest) cs) : Z (own, cc, nL, ret, ini) G d Post (pc) L (.int y :: .int x :: rest) cs := by
  intro p l e R s m args below meth c H locs cells slots ls Q hC hB hL hR hq
  exact lv_irem hC.1 hC.2.1 hdg hne (kk p l e R s m args below meth c H locs cells slots ls Q hC hB hL hR hq)

theorem z_ladd {x y : Int64} (hdg : decode cc pc = .ok (.ladd, 1)) (kk : Z (own, cc, nL, ret, ini) G d Post (pc + 1) L (.long (x + y) :: rest) cs) : Z (own, cc, nL, ret, ini) G d Post (pc) L (.long y :: .long x :: rest) cs := by
  intro p l e R s m args below meth c H locs cells slots ls Q hC hB hL hR hq
  exact lv_ladd hC.1 hC.2.1 hdg (kk p l e R s m args below meth c H locs cells slots ls Q hC hB hL hR hq)

theorem z_lsub {x y : Int64} (hdg : decode cc pc = .ok (.lsub, 1)) (kk : Z (own, cc, nL, ret, ini) G d Post (pc + 1) L (.long (x - y) :: rest) cs) : Z (own, cc, nL, ret, ini) G d Post (pc) L (.long y :: .long x :: rest) cs := by
  intro p l e R s m args below meth c H locs cells slots ls Q hC hB hL hR hq
  exact lv_lsub hC.1 hC.2.1 hdg (kk p l e R s m args below meth c H locs cells slots ls Q hC hB hL hR hq)

theorem z_lmul {x y : Int64} (hdg : decode cc pc = .ok (.lmul, 1)) (kk : Z (own, cc, nL, ret, ini) G d Post (pc + 1) L (.long (x * y) :: rest) cs) : Z (own, cc, nL, ret, ini) G d Post (pc) L (.long y :: .long x :: rest) cs := by
  intro p l e R s m args below meth c H locs cells slots ls Q hC hB hL hR hq
  exact lv_lmul hC.1 hC.2.1 hdg (kk p l e R s m args below meth c H locs cells slots ls Q hC hB hL hR hq)

theorem z_ldiv {x y : Int64} (hdg : decode cc pc = .ok (.ldiv, 1)) (hne : ¬ y = 0) (kk : Z (own, cc, nL, ret, ini) G d Post (pc + 1) L (.long (x / y) :: rest) cs) : Z (own, cc, nL, ret, ini) G d Post (pc) L (.long y :: .long x :: rest) cs := by
  intro p l e R s m args below meth c H locs cells slots ls Q hC hB hL hR hq
  exact lv_ldiv hC.1 hC.2.1 hdg hne (kk p l e R s m args below meth c H locs cells slots ls Q hC hB hL hR hq)

theorem z_lrem {x y : Int64} (hdg : decode cc pc = .ok (.lrem, 1)) (hne : ¬ y = 0) (kk : Z (own, cc, nL, ret, ini) G d Post (pc + 1) L (.long (x - x / y * y) :: rest) cs) : Z (own, cc, nL, ret, ini) G d Post (pc) L (.long y :: .long x :: rest) cs := by
  intro p l e R s m args below meth c H locs cells slots ls Q hC hB hL hR hq
  exact lv_lrem hC.1 hC.2.1 hdg hne (kk p l e R s m args below meth c H locs cells slots ls Q hC hB hL hR hq)

theorem z_lneg {x : Int64} (hdg : decode cc pc = .ok (.lneg, 1)) (kk : Z (own, cc, nL, ret, ini) G d Post (pc + 1) L (.long (-x) :: rest) cs) : Z (own, cc, nL, ret, ini) G d Post (pc) L (.long x :: rest) cs := by
  intro p l e R s m args below meth c H locs cells slots ls Q hC hB hL hR hq
  exact lv_lneg hC.1 hC.2.1 hdg (kk p l e R s m args below meth c H locs cells slots ls Q hC hB hL hR hq)

theorem z_lcmp {x y : Int64} (hdg : decode cc pc = .ok (.lcmp, 1)) (kk : Z (own, cc, nL, ret, ini) G d Post (pc + 1) L (.int (lg_cmp x y) :: rest) cs) : Z (own, cc, nL, ret, ini) G d Post (pc) L (.long y :: .long x :: rest) cs := by
  intro p l e R s m args below meth c H locs cells slots ls Q hC hB hL hR hq
  exact W.lcmp hC.1 hC.2.1 hdg (kk p l e R s m args below meth c H locs cells slots ls Q hC hB hL hR hq)

theorem z_i2l {x : Int32} (hdg : decode cc pc = .ok (.i2l, 1)) (kk : Z (own, cc, nL, ret, ini) G d Post (pc + 1) L (.long x.toInt64 :: rest) cs) : Z (own, cc, nL, ret, ini) G d Post (pc) L (.int x :: rest) cs := by
  intro p l e R s m args below meth c H locs cells slots ls Q hC hB hL hR hq
  exact lv_i2l hC.1 hC.2.1 hdg rfl (kk p l e R s m args below meth c H locs cells slots ls Q hC hB hL hR hq)

theorem z_l2i {x : Int64} (hdg : decode cc pc = .ok (.l2i, 1)) (kk : Z (own, cc, nL, ret, ini) G d Post (pc + 1) L (.int x.toInt32 :: rest) cs) : Z (own, cc, nL, ret, ini) G d Post (pc) L (.long x :: rest) cs := by
  intro p l e R s m args below meth c H locs cells slots ls Q hC hB hL hR hq
  exact lv_l2i hC.1 hC.2.1 hdg rfl (kk p l e R s m args below meth c H locs cells slots ls Q hC hB hL hR hq)

theorem z_i2c {x : Int32} (hdg : decode cc pc = .ok (.i2c, 1)) (kk : Z (own, cc, nL, ret, ini) G d Post (pc + 1) L (.int (x.toUInt32 % 65536).toInt32 :: rest) cs) : Z (own, cc, nL, ret, ini) G d Post (pc) L (.int x :: rest) cs := by
  intro p l e R s m args below meth c H locs cells slots ls Q hC hB hL hR hq
  exact lv_i2c hC.1 hC.2.1 hdg rfl (kk p l e R s m args below meth c H locs cells slots ls Q hC hB hL hR hq)

theorem z_dup {va : Value} (hdg : decode cc pc = .ok (.dup, 1)) (hva : va.category = 1) (kk : Z (own, cc, nL, ret, ini) G d Post (pc + 1) L (va :: va :: rest) cs) : Z (own, cc, nL, ret, ini) G d Post (pc) L (va :: rest) cs := by
  intro p l e R s m args below meth c H locs cells slots ls Q hC hB hL hR hq
  exact lv_dup hC.1 hC.2.1 hdg hva (kk p l e R s m args below meth c H locs cells slots ls Q hC hB hL hR hq)

theorem z_pop {va : Value} (hdg : decode cc pc = .ok (.pop, 1)) (hva : va.category = 1) (kk : Z (own, cc, nL, ret, ini) G d Post (pc + 1) L (rest) cs) : Z (own, cc, nL, ret, ini) G d Post (pc) L (va :: rest) cs := by
  intro p l e R s m args below meth c H locs cells slots ls Q hC hB hL hR hq
  exact lv_pop hC.1 hC.2.1 hdg hva (kk p l e R s m args below meth c H locs cells slots ls Q hC hB hL hR hq)

theorem z_dup2 {va vb : Value} (hdg : decode cc pc = .ok (.dup2, 1)) (hva : va.category = 1) (hvb : vb.category = 1) (kk : Z (own, cc, nL, ret, ini) G d Post (pc + 1) L (va :: vb :: va :: vb :: rest) cs) : Z (own, cc, nL, ret, ini) G d Post (pc) L (va :: vb :: rest) cs := by
  intro p l e R s m args below meth c H locs cells slots ls Q hC hB hL hR hq
  exact lv_dup2_11 hC.1 hC.2.1 hdg hva hvb (kk p l e R s m args below meth c H locs cells slots ls Q hC hB hL hR hq)

theorem z_if_eq {x : Int32} {off : Int} {tgt : Nat} (hdg : decode cc pc = .ok (.ifCond .eq off, 3)) (ht : (pc : Int) + off = (tgt : Int)) (kt : (x = 0) → Z (own, cc, nL, ret, ini) G d Post (tgt) L (rest) cs) (kf : (¬ x = 0) → Z (own, cc, nL, ret, ini) G d Post (pc + 3) L (rest) cs) : Z (own, cc, nL, ret, ini) G d Post (pc) L (.int x :: rest) cs := by
  intro p l e R s m args below meth c H locs cells slots ls Q hC hB hL hR hq
  exact lv_if_eq hC.1 hC.2.1 hdg ht (fun h => kt h p l e R s m args below meth c H locs cells slots ls Q hC hB hL hR hq) (fun h => kf h p l e R s m args below meth c H locs cells slots ls Q hC hB hL hR hq)

theorem z_if_ne {x : Int32} {off : Int} {tgt : Nat} (hdg : decode cc pc = .ok (.ifCond .ne off, 3)) (ht : (pc : Int) + off = (tgt : Int)) (kt : (¬ x = 0) → Z (own, cc, nL, ret, ini) G d Post (tgt) L (rest) cs) (kf : (x = 0) → Z (own, cc, nL, ret, ini) G d Post (pc + 3) L (rest) cs) : Z (own, cc, nL, ret, ini) G d Post (pc) L (.int x :: rest) cs := by
  intro p l e R s m args below meth c H locs cells slots ls Q hC hB hL hR hq
  exact lv_if_ne hC.1 hC.2.1 hdg ht (fun h => kt h p l e R s m args below meth c H locs cells slots ls Q hC hB hL hR hq) (fun h => kf h p l e R s m args below meth c H locs cells slots ls Q hC hB hL hR hq)

theorem z_if_lt {x : Int32} {off : Int} {tgt : Nat} (hdg : decode cc pc = .ok (.ifCond .lt off, 3)) (ht : (pc : Int) + off = (tgt : Int)) (kt : (x < 0) → Z (own, cc, nL, ret, ini) G d Post (tgt) L (rest) cs) (kf : (¬ x < 0) → Z (own, cc, nL, ret, ini) G d Post (pc + 3) L (rest) cs) : Z (own, cc, nL, ret, ini) G d Post (pc) L (.int x :: rest) cs := by
  intro p l e R s m args below meth c H locs cells slots ls Q hC hB hL hR hq
  exact lv_if_lt hC.1 hC.2.1 hdg ht (fun h => kt h p l e R s m args below meth c H locs cells slots ls Q hC hB hL hR hq) (fun h => kf h p l e R s m args below meth c H locs cells slots ls Q hC hB hL hR hq)

theorem z_if_ge {x : Int32} {off : Int} {tgt : Nat} (hdg : decode cc pc = .ok (.ifCond .ge off, 3)) (ht : (pc : Int) + off = (tgt : Int)) (kt : (0 ≤ x) → Z (own, cc, nL, ret, ini) G d Post (tgt) L (rest) cs) (kf : (¬ 0 ≤ x) → Z (own, cc, nL, ret, ini) G d Post (pc + 3) L (rest) cs) : Z (own, cc, nL, ret, ini) G d Post (pc) L (.int x :: rest) cs := by
  intro p l e R s m args below meth c H locs cells slots ls Q hC hB hL hR hq
  exact lv_if_ge hC.1 hC.2.1 hdg ht (fun h => kt h p l e R s m args below meth c H locs cells slots ls Q hC hB hL hR hq) (fun h => kf h p l e R s m args below meth c H locs cells slots ls Q hC hB hL hR hq)

theorem z_if_gt {x : Int32} {off : Int} {tgt : Nat} (hdg : decode cc pc = .ok (.ifCond .gt off, 3)) (ht : (pc : Int) + off = (tgt : Int)) (kt : (0 < x) → Z (own, cc, nL, ret, ini) G d Post (tgt) L (rest) cs) (kf : (¬ 0 < x) → Z (own, cc, nL, ret, ini) G d Post (pc + 3) L (rest) cs) : Z (own, cc, nL, ret, ini) G d Post (pc) L (.int x :: rest) cs := by
  intro p l e R s m args below meth c H locs cells slots ls Q hC hB hL hR hq
  exact lv_if_gt hC.1 hC.2.1 hdg ht (fun h => kt h p l e R s m args below meth c H locs cells slots ls Q hC hB hL hR hq) (fun h => kf h p l e R s m args below meth c H locs cells slots ls Q hC hB hL hR hq)

theorem z_if_le {x : Int32} {off : Int} {tgt : Nat} (hdg : decode cc pc = .ok (.ifCond .le off, 3)) (ht : (pc : Int) + off = (tgt : Int)) (kt : (x ≤ 0) → Z (own, cc, nL, ret, ini) G d Post (tgt) L (rest) cs) (kf : (¬ x ≤ 0) → Z (own, cc, nL, ret, ini) G d Post (pc + 3) L (rest) cs) : Z (own, cc, nL, ret, ini) G d Post (pc) L (.int x :: rest) cs := by
  intro p l e R s m args below meth c H locs cells slots ls Q hC hB hL hR hq
  exact lv_if_le hC.1 hC.2.1 hdg ht (fun h => kt h p l e R s m args below meth c H locs cells slots ls Q hC hB hL hR hq) (fun h => kf h p l e R s m args below meth c H locs cells slots ls Q hC hB hL hR hq)

theorem z_icmp_eq {x y : Int32} {off : Int} {tgt : Nat} (hdg : decode cc pc = .ok (.if_icmp .eq off, 3)) (ht : (pc : Int) + off = (tgt : Int)) (kt : (x = y) → Z (own, cc, nL, ret, ini) G d Post (tgt) L (rest) cs) (kf : (¬ x = y) → Z (own, cc, nL, ret, ini) G d Post (pc + 3) L (rest) cs) : Z (own, cc, nL, ret, ini) G d Post (pc) L (.int y :: .int x :: rest) cs := by
  intro p l e R s m args below meth c H locs cells slots ls Q hC hB hL hR hq
  exact lv_icmp_eq hC.1 hC.2.1 hdg ht (fun h => kt h p l e R s m args below meth c H locs cells slots ls Q hC hB hL hR hq) (fun h => kf h p l e R s m args below meth c H locs cells slots ls Q hC hB hL hR hq)

theorem z_icmp_ne {x y : Int32} {off : Int} {tgt : Nat} (hdg : decode cc pc = .ok (.if_icmp .ne off, 3)) (ht : (pc : Int) + off = (tgt : Int)) (kt : (¬ x = y) → Z (own, cc, nL, ret, ini) G d Post (tgt) L (rest) cs) (kf : (x = y) → Z (own, cc, nL, ret, ini) G d Post (pc + 3) L (rest) cs) : Z (own, cc, nL, ret, ini) G d Post (pc) L (.int y :: .int x :: rest) cs := by
  intro p l e R s m args below meth c H locs cells slots ls Q hC hB hL hR hq
  exact lv_icmp_ne hC.1 hC.2.1 hdg ht (fun h => kt h p l e R s m args below meth c H locs cells slots ls Q hC hB hL hR hq) (fun h => kf h p l e R s m args below meth c H locs cells slots ls Q hC hB hL hR hq)

theorem z_icmp_lt {x y : Int32} {off : Int} {tgt : Nat} (hdg : decode cc pc = .ok (.if_icmp .lt off, 3)) (ht : (pc : Int) + off = (tgt : Int)) (kt : (x < y) → Z (own, cc, nL, ret, ini) G d Post (tgt) L (rest) cs) (kf : (¬ x < y) → Z (own, cc, nL, ret, ini) G d Post (pc + 3) L (rest) cs) : Z (own, cc, nL, ret, ini) G d Post (pc) L (.int y :: .int x :: rest) cs := by
  intro p l e R s m args below meth c H locs cells slots ls Q hC hB hL hR hq
  exact lv_icmp_lt hC.1 hC.2.1 hdg ht (fun h => kt h p l e R s m args below meth c H locs cells slots ls Q hC hB hL hR hq) (fun h => kf h p l e R s m args below meth c H locs cells slots ls Q hC hB hL hR hq)

theorem z_icmp_ge {x y : Int32} {off : Int} {tgt : Nat} (hdg : decode cc pc = .ok (.if_icmp .ge off, 3)) (ht : (pc : Int) + off = (tgt : Int)) (kt : (y ≤ x) → Z (own, cc, nL, ret, ini) G d Post (tgt) L (rest) cs) (kf : (¬ y ≤ x) → Z (own, cc, nL, ret, ini) G d Post (pc + 3) L (rest) cs) : Z (own, cc, nL, ret, ini) G d Post (pc) L (.int y :: .int x :: rest) cs := by
  intro p l e R s m args below meth c H locs cells slots ls Q hC hB hL hR hq
  exact lv_icmp_ge hC.1 hC.2.1 hdg ht (fun h => kt h p l e R s m args below meth c H locs cells slots ls Q hC hB hL hR hq) (fun h => kf h p l e R s m args below meth c H locs cells slots ls Q hC hB hL hR hq)

theorem z_icmp_gt {x y : Int32} {off : Int} {tgt : Nat} (hdg : decode cc pc = .ok (.if_icmp .gt off, 3)) (ht : (pc : Int) + off = (tgt : Int)) (kt : (y < x) → Z (own, cc, nL, ret, ini) G d Post (tgt) L (rest) cs) (kf : (¬ y < x) → Z (own, cc, nL, ret, ini) G d Post (pc + 3) L (rest) cs) : Z (own, cc, nL, ret, ini) G d Post (pc) L (.int y :: .int x :: rest) cs := by
  intro p l e R s m args below meth c H locs cells slots ls Q hC hB hL hR hq
  exact lv_icmp_gt hC.1 hC.2.1 hdg ht (fun h => kt h p l e R s m args below meth c H locs cells slots ls Q hC hB hL hR hq) (fun h => kf h p l e R s m args below meth c H locs cells slots ls Q hC hB hL hR hq)

theorem z_icmp_le {x y : Int32} {off : Int} {tgt : Nat} (hdg : decode cc pc = .ok (.if_icmp .le off, 3)) (ht : (pc : Int) + off = (tgt : Int)) (kt : (x ≤ y) → Z (own, cc, nL, ret, ini) G d Post (tgt) L (rest) cs) (kf : (¬ x ≤ y) → Z (own, cc, nL, ret, ini) G d Post (pc + 3) L (rest) cs) : Z (own, cc, nL, ret, ini) G d Post (pc) L (.int y :: .int x :: rest) cs := by
  intro p l e R s m args below meth c H locs cells slots ls Q hC hB hL hR hq
  exact lv_icmp_le hC.1 hC.2.1 hdg ht (fun h => kt h p l e R s m args below meth c H locs cells slots ls Q hC hB hL hR hq) (fun h => kf h p l e R s m args below meth c H locs cells slots ls Q hC hB hL hR hq)

theorem z_goto {off : Int} {tgt : Nat} (hdg : decode cc pc = .ok (.goto off, 3)) (ht : (pc : Int) + off = (tgt : Int)) (kk : Z (own, cc, nL, ret, ini) G d Post (tgt) L (rest) cs) : Z (own, cc, nL, ret, ini) G d Post (pc) L (rest) cs := by
  intro p l e R s m args below meth c H locs cells slots ls Q hC hB hL hR hq
  exact lv_goto hC.1 hC.2.1 hdg ht (kk p l e R s m args below meth c H locs cells slots ls Q hC hB hL hR hq)

theorem z_lookup {dflt : Int} {ps : Array (Int × Int)} {len : Nat} {x : Int32} {off : Int} {tgt : Nat} (hdg : decode cc pc = .ok (.lookupswitch dflt ps, len)) (hp : (ps.toList.zip (ps.toList.drop 1)).all (fun (a, next) => a.1 < next.1) = true) (ho : Op.lookupswitch.offset ps.toList dflt x.toInt = off) (ht : (pc : Int) + off = (tgt : Int)) (kk : Z (own, cc, nL, ret, ini) G d Post (tgt) L (rest) cs) : Z (own, cc, nL, ret, ini) G d Post (pc) L (.int x :: rest) cs := by
  intro p l e R s m args below meth c H locs cells slots ls Q hC hB hL hR hq
  exact lv_lookup hC.1 hC.2.1 hdg hp ho ht (kk p l e R s m args below meth c H locs cells slots ls Q hC hB hL hR hq)
theorem z_tableOut {dflt lo hi : Int} {offs : Array Int} {len : Nat} {x : Int32} {tgt : Nat} (hdg : decode cc pc = .ok (.tableswitch dflt lo hi offs, len)) (h : x.toInt < lo ∨ hi < x.toInt) (ht : (pc : Int) + dflt = (tgt : Int)) (kk : Z (own, cc, nL, ret, ini) G d Post (tgt) L (rest) cs) : Z (own, cc, nL, ret, ini) G d Post (pc) L (.int x :: rest) cs := by
  intro p l e R s m args below meth c H locs cells slots ls Q hC hB hL hR hq
  exact lv_tableOut hC.1 hC.2.1 hdg h ht (kk p l e R s m args below meth c H locs cells slots ls Q hC hB hL hR hq)
theorem z_tableIn {dflt lo hi : Int} {offs : Array Int} {len : Nat} {x : Int32} {off : Int} {tgt : Nat} (hdg : decode cc pc = .ok (.tableswitch dflt lo hi offs, len)) (h1 : ¬ x.toInt < lo) (h2 : ¬ hi < x.toInt) (ho : offs[(x.toInt - lo).toNat]? = some off) (ht : (pc : Int) + off = (tgt : Int)) (kk : Z (own, cc, nL, ret, ini) G d Post (tgt) L (rest) cs) : Z (own, cc, nL, ret, ini) G d Post (pc) L (.int x :: rest) cs := by
  intro p l e R s m args below meth c H locs cells slots ls Q hC hB hL hR hq
  exact lv_tableIn hC.1 hC.2.1 hdg h1 h2 ho ht (kk p l e R s m args below meth c H locs cells slots ls Q hC hB hL hR hq)

theorem z_return (hdg : decode cc pc = .ok (.return_, 1)) (hr : ret = none) (h : Post none cs) : Z (own, cc, nL, ret, ini) G d Post pc L [] cs := by
  intro p l e R s m args below meth c H locs cells slots ls Q hC hB hL hR hq
  exact hq none cs H locs cells slots pc ls h hB ⟨hdg, hr⟩
theorem z_ireturn {v : Int32} {ty : FieldType} (hdg : decode cc pc = .ok (.ireturn, 1)) (hr : ret = some ty) (hn : narrow ty (.int v) = .int v) (h : Post (some (.int v)) cs) : Z (own, cc, nL, ret, ini) G d Post pc L [.int v] cs := by
  intro p l e R s m args below meth c H locs cells slots ls Q hC hB hL hR hq
  exact hq (some (.int v)) cs H locs cells slots pc ls h hB ⟨hdg, ty, hr, hn⟩
theorem z_areturn {a : Nat} {ty : FieldType} (hdg : decode cc pc = .ok (.areturn, 1)) (hr : ret = some ty) (hn : (∃ n, ty = .object n) ∨ ∃ t, ty = .array t) (h : Post (some (.ref a)) cs) : Z (own, cc, nL, ret, ini) G d Post pc L [.ref a] cs := by
  intro p l e R s m args below meth c H locs cells slots ls Q hC hB hL hR hq
  exact hq (some (.ref a)) cs H locs cells slots pc ls h hB ⟨hdg, ty, hr, hn⟩

theorem z_loc {L' : List (Nat × Value)} (h : ∀ q ∈ L', xLk L q.1 = some q.2) (kk : Z (own, cc, nL, ret, ini) G d Post pc L' rest cs) : Z (own, cc, nL, ret, ini) G d Post pc L rest cs := by
  intro p l e R s m args below meth c H locs cells slots ls Q hC hB hL hR hq
  exact kk p l e R s m args below meth c H locs cells slots ls Q hC hB ⟨hL.1, hL.2.1, fun q hq => hL.2.2 q (xLk_mem (h q hq))⟩ hR hq
theorem z_cs {cs' : List va_E} (h : cs = cs') (kk : Z (own, cc, nL, ret, ini) G d Post pc L rest cs') : Z (own, cc, nL, ret, ini) G d Post pc L rest cs := h ▸ kk
theorem z_st {st st' : List Value} (h : st = st') (kk : Z (own, cc, nL, ret, ini) G d Post pc L st' cs) : Z (own, cc, nL, ret, ini) G d Post pc L st cs := h ▸ kk

/-- a class: its place among the worlds' classes, its fields' words -/
def xCl (ci : Nat) (C : String) (T : u_T) (N : Nat) (ty : Nat → FieldType) : Prop := vwCl[ci]? = some (C, T, N) ∧ (∀ w ∈ u_ws C T N, w ∈ xTs) ∧ (∀ k, k < N → parseFieldDescriptor (T k).2.2.1 = some (ty k)) ∧ (∀ a, a < N → ∀ b, b < N → a ≠ b → (T a).2.1 ≠ (T b).2.1)
/-- a field's link -/
def xFl (own : String) (index : Nat) (T : u_T) (N k : Nat) : Prop := k < N ∧ Cond.fieldLink own index (T k).1 (T k).2.1 (T k).2.2.1 ∈ xTs
theorem z_get {C : String} {T : u_T} {N ci index k : Nat} {ty : Nat → FieldType} (hc : xCl ci C T N ty) (hf : xFl own index T N k) (hdg : decode cc pc = .ok (.getfield index, 3)) {j : Nat} {fs : List Value} {v : Value} (he : cs[j]? = some (.inr (ci, fs))) (hv : fs[k]? = some v) (kk : Z (own, cc, nL, ret, ini) G d Post (pc + 3) L (v :: rest) cs) : Z (own, cc, nL, ret, ini) G d Post (pc) L (.ref (G.1 + j) :: rest) cs := by
  intro p l e R s m args below meth c H locs cells slots ls Q hC hB hL hR hq
  exact va_get (D := G.2.1) hC.1 hC.2.1 hC.2.2.2.2.1 hc.2.1 hC.2.2.2.1 hB.2.2.2.1 hB.2.1 j (xIx_at he) hc.1 k hf.1 (hC.2.2.2.2.1 _ hf.2) (fun _ h => h) hv hdg (kk p l e R s m args below meth c H locs cells slots ls Q hC hB hL hR hq)
theorem xZ_set {k : Nat} {e0 e : va_E} (h0 : cs[k]? = some e0) (he : xSzE e = xSzE e0) : xZ (cs.set k e) = xZ cs := by
  unfold xZ
  congr 1
  apply List.ext_getElem?
  intro i
  rw [List.getElem?_map, List.getElem?_map, List.getElem?_set]
  by_cases h : k = i
  · subst h
    have hl := (List.getElem?_eq_some_iff.mp h0).1
    rw [if_pos rfl, if_pos hl, h0, Option.map_some, Option.map_some, he]
  · simp [h]
theorem xB.put2 {s : State} {H H1 : Heap} {locs locs1 : List Loc} {k : Nat} {e0 e : va_E} (hB : xB G cs s H locs) (h0 : cs[k]? = some e0) (hsz : xSzE e = xSzE e0) (he : va_at G.2.1 vwCl (G.1 + k, e) H1) (hc : ∃ cell : Cell, H1[G.1 + k]? = some cell ∧ cell.slots.size = xSzE e) (z : H1.size = H.size) (oq : ∀ q : Nat, q ≠ G.1 + k → H1[q]? = H[q]?) (hS1 : va_S (xA G) s.heap H1 locs1) : xB G (cs.set k e) s H1 locs1 := by
  obtain ⟨h1, h2, h3, h4, h5, h6, h7, h8, h9⟩ := hB
  refine ⟨by rw [z, h1]; simp, ?_, hS1, h4, h5, h6, h7, fun i x hx => ?_, ?_⟩
  · rw [← xIx_set]
    exact h2.set (xIx_D G cs) (xIx_at h0) he oq
  · by_cases hi : i = k
    · subst hi
      rw [List.getElem?_set_self (List.getElem?_eq_some_iff.mp h0).1] at hx
      cases hx
      exact hc
    · rw [List.getElem?_set_ne (fun h => hi h.symm)] at hx
      obtain ⟨c0, g1, g2⟩ := h8 i _ hx
      exact ⟨c0, by rw [oq _ (by omega)]; exact g1, g2⟩
  · unfold xCap at h9 ⊢
    rw [xZ_set h0 hsz, List.length_set]
    exact h9
theorem xB.put {s : State} {H H1 : Heap} {locs : List Loc} {k n sl : Nat} {v : Value} {cell : Cell} {e0 e : va_E} (hB : xB G cs s H locs) (h0 : cs[k]? = some e0) (hsz : xSzE e = xSzE e0) (he : va_at G.2.1 vwCl (G.1 + k, e) H1) (hc : H[G.1 + k]? = some cell) (hc1 : H1[G.1 + k]? = some (cell.setSlot sl v)) (z : H1.size = H.size) (oq : ∀ q : Nat, q ≠ G.1 + k → H1[q]? = H[q]?) : xB G (cs.set k e) s H1 (locs ++ [⟨G.1 + k, n⟩]) := by
  obtain ⟨h1, h2, h3, h4, h5, h6, h7, h8, h9⟩ := hB
  refine ⟨by rw [z, h1]; simp, ?_, h3.put z oq (Nat.le_add_right _ _), h4, h5, h6, h7, fun i x hx => ?_, ?_⟩
  · rw [← xIx_set]
    exact h2.set (xIx_D G cs) (xIx_at h0) he oq
  · by_cases hi : i = k
    · subst hi
      rw [List.getElem?_set_self (List.getElem?_eq_some_iff.mp h0).1] at hx
      cases hx
      obtain ⟨c0, g1, g2⟩ := h8 i _ h0
      rw [hc] at g1
      cases g1
      exact ⟨_, hc1, by rw [hsz, ← g2]; simp [Cell.setSlot]⟩
    · rw [List.getElem?_set_ne (fun h => hi h.symm)] at hx
      obtain ⟨c0, g1, g2⟩ := h8 i _ hx
      exact ⟨c0, by rw [oq _ (by omega)]; exact g1, g2⟩
  · unfold xCap at h9 ⊢
    rw [xZ_set h0 hsz, List.length_set]
    exact h9
theorem z_put {C : String} {T : u_T} {N ci index k : Nat} {ty : Nat → FieldType} (hc : xCl ci C T N ty) (hf : xFl own index T N k) (hdg : decode cc pc = .ok (.putfield index, 3)) (hfin : (T k).2.2.2 = false) {j : Nat} {fs : List Value} {v : Value} (he : cs[j]? = some (.inr (ci, fs))) (hn : narrow (ty k) v = v) (hfit : fits (ty k) v = true) (hl : k < fs.length) (kk : Z (own, cc, nL, ret, ini) G d Post (pc + 3) L (rest) (cs.set j (.inr (ci, fs.set k v)))) : Z (own, cc, nL, ret, ini) G d Post (pc) L (v :: .ref (G.1 + j) :: rest) cs := by
  intro p l e R s m args below meth c H locs cells slots ls Q hC hB hL hR hq
  have hk := hf.1
  have hts := hC.2.2.2.2.1
  have hap := va_apart (own := own) hts hc.2.1 ty hc.2.2.1 hc.2.2.2 hB.2.2.2.1 hc.1
  obtain ⟨r, h1, cell, q1, q2, q3, q4⟩ := hB.2.1 j _ (xIx_at he)
  have hr : r = (C, T, N) := Option.some.inj (h1.symm.trans hc.1)
  subst hr
  obtain ⟨hS, hfc, kC, hkC, hkind⟩ := hB.2.2.2.1.1 ci _ hc.1
  obtain ⟨cf, kf, fi, f, hi, hsl⟩ := hS k hk
  have hlay := hts _ (hc.2.1 _ (u_in_lay hk))
  unfold u_lay at hlay
  rw [if_neg (by rw [hfin]; decide)] at hlay
  have hst := (u_facts hfc hkC (u_lays hts hc.2.1 hk) hi).1
  have h6 := u_store hfc hkC hkind hlay hi (hc.2.2.1 k hk) hn hfit
  refine W.putK hC.1 hC.2.1 (f := f) ⟨hC.2.2.2.1, hts _ hf.2, ⟨_, _, _, hi⟩, hst⟩ (by rw [q2]; exact h6) q1 q3 (by rw [hsl]; exact k2_hasslot (q4 k hk)) rfl rfl hdg fun H' e1 e2 e3 => ?_
  rw [hsl] at e1 ⊢
  exact kk p l e R s m args below meth c H' _ cells slots ls Q hC (hB.put he rfl ⟨_, hc.1, t_OB.to (V := updV (vp_V fs) k v) ⟨_, e1, q2, q3, t_set q4 hap hk v⟩ (fun j _ => vp_updV_set hl v j)⟩ q1 e1 e2 e3) hL hR hq
theorem z_putF {C : String} {T : u_T} {N ci index k : Nat} {ty : Nat → FieldType} (hc : xCl ci C T N ty) (hf : xFl own index T N k) (hdg : decode cc pc = .ok (.putfield index, 3)) (hfin : (T k).2.2.2 = true) (hini : ini = true) (hdecl : (T k).1 = own) {j : Nat} {fs : List Value} {v : Value} (he : cs[j]? = some (.inr (ci, fs))) (hn : narrow (ty k) v = v) (hfit : fits (ty k) v = true) (hl : k < fs.length) (kk : Z (own, cc, nL, ret, ini) G d Post (pc + 3) L (rest) (cs.set j (.inr (ci, fs.set k v)))) : Z (own, cc, nL, ret, ini) G d Post (pc) L (v :: .ref (G.1 + j) :: rest) cs := by
  intro p l e R s m args below meth c H locs cells slots ls Q hC hB hL hR hq
  have hk := hf.1
  have hts := hC.2.2.2.2.1
  have hown := hC.2.2.2.1
  have hap := va_apart (own := own) hts hc.2.1 ty hc.2.2.1 hc.2.2.2 hB.2.2.2.1 hc.1
  obtain ⟨r, h1, cell, q1, q2, q3, q4⟩ := hB.2.1 j _ (xIx_at he)
  have hr : r = (C, T, N) := Option.some.inj (h1.symm.trans hc.1)
  subst hr
  obtain ⟨hS, hfc, kC, hkC, hkind⟩ := hB.2.2.2.1.1 ci _ hc.1
  obtain ⟨cf, kf, fi, f, hi, hsl⟩ := hS k hk
  have hlay := hts _ (hc.2.1 _ (u_in_lay hk))
  unfold u_lay at hlay
  rw [if_pos hfin] at hlay
  have hst := (u_facts hfc hkC (u_lays hts hc.2.1 hk) hi).1
  have hcf : m.cls = cf := by
    obtain ⟨_, _, c', _, _, _, -, -, hf', -, -, -, hown2, -⟩ := Cond.laysFinal_spec hlay
    have e1 : c' = cf := by have := hi.symm.trans hf'; simp at this; exact this.1.symm
    rw [hdecl] at hown2
    rw [← e1]; exact Option.some.inj (hown.symm.trans hown2)
  have h6 := u_fits hfc hkC hkind (Or.inr hlay) hi (hc.2.2.1 k hk) hn hfit
  refine W.putFinK hC.1 hC.2.1 hown (hts _ hf.2) hi hst hcf (hC.2.2.2.2.2.2.2 hini) (by rw [q2]; exact h6) q1 q3 (by rw [hsl]; exact k2_hasslot (q4 k hk)) rfl rfl hdg fun H' e1 e2 e3 => ?_
  rw [hsl] at e1 ⊢
  exact kk p l e R s m args below meth c H' _ cells slots ls Q hC (hB.put he rfl ⟨_, hc.1, t_OB.to (V := updV (vp_V fs) k v) ⟨_, e1, q2, q3, t_set q4 hap hk v⟩ (fun j _ => vp_updV_set hl v j)⟩ q1 e1 e2 e3) hL hR hq

theorem z_iald {j n : Nat} {f : Nat → Int32} {i : Int32} (hdg : decode cc pc = .ok (.iaload, 1)) (he : cs[j]? = some (.inl (G.2.2.1 0, n, .inl f))) (hin : vp_in i n) (kk : Z (own, cc, nL, ret, ini) G d Post (pc + 1) L (.int (f i.toNatClampNeg) :: rest) cs) : Z (own, cc, nL, ret, ini) G d Post (pc) L (.int i :: .ref (G.1 + j) :: rest) cs := by
  intro p l e R s m args below meth c H locs cells slots ls Q hC hB hL hR hq
  exact va_iald (D := G.2.1) hC.1 hC.2.1 hB.2.2.2.1 hB.2.1 j 0 (xIx_at he) rfl hin hdg (kk p l e R s m args below meth c H locs cells slots ls Q hC hB hL hR hq)

theorem z_cald {j n : Nat} {f : Nat → Int32} {i : Int32} (hdg : decode cc pc = .ok (.caload, 1)) (he : cs[j]? = some (.inl (G.2.2.1 1, n, .inl f))) (hin : vp_in i n) (kk : Z (own, cc, nL, ret, ini) G d Post (pc + 1) L (.int (f i.toNatClampNeg) :: rest) cs) : Z (own, cc, nL, ret, ini) G d Post (pc) L (.int i :: .ref (G.1 + j) :: rest) cs := by
  intro p l e R s m args below meth c H locs cells slots ls Q hC hB hL hR hq
  exact va_cald (D := G.2.1) hC.1 hC.2.1 hB.2.2.2.1 hB.2.1 j 1 (xIx_at he) rfl hin hdg (kk p l e R s m args below meth c H locs cells slots ls Q hC hB hL hR hq)

theorem z_zald {j n : Nat} {f : Nat → Int32} {i : Int32} (hdg : decode cc pc = .ok (.baload, 1)) (he : cs[j]? = some (.inl (G.2.2.1 2, n, .inl f))) (hin : vp_in i n) (kk : Z (own, cc, nL, ret, ini) G d Post (pc + 1) L (.int (f i.toNatClampNeg) :: rest) cs) : Z (own, cc, nL, ret, ini) G d Post (pc) L (.int i :: .ref (G.1 + j) :: rest) cs := by
  intro p l e R s m args below meth c H locs cells slots ls Q hC hB hL hR hq
  exact va_zald (D := G.2.1) hC.1 hC.2.1 hB.2.2.2.1 hB.2.1 j 2 (xIx_at he) rfl hin hdg (kk p l e R s m args below meth c H locs cells slots ls Q hC hB hL hR hq)

theorem z_iast {j n : Nat} {f : Nat → Int32} {i x : Int32} (hdg : decode cc pc = .ok (.iastore, 1)) (he : cs[j]? = some (.inl (G.2.2.1 0, n, .inl f))) (hin : vp_in i n) (kk : Z (own, cc, nL, ret, ini) G d Post (pc + 1) L (rest) (cs.set j (.inl (G.2.2.1 0, n, .inl (upd f i.toNatClampNeg (x)))))) : Z (own, cc, nL, ret, ini) G d Post (pc) L (.int x :: .int i :: .ref (G.1 + j) :: rest) cs := by
  intro p l e R s m args below meth c H locs cells slots ls Q hC hB hL hR hq
  refine W.iast hC.1 hC.2.1 (hB.2.1 j _ (xIx_at he)) ((hB.2.2.2.1.2 0 _ rfl).1 n (fun j => .int (f j))) (fun q => by cases q) (by show ¬ (i < 0 ∨ (arrV _ _ _).slots.size ≤ _); rw [arrV_size]; exact hin) rfl rfl hdg fun H1 e1 z oq => ?_
  refine kk p l e R s m args below meth c H1 _ cells slots ls Q hC (hB.put he rfl ?_ (hB.2.1 j _ (xIx_at he)) e1 z oq) hL hR hq
  show H1[G.1 + j]? = some (vp_cell _ _)
  rw [e1, vp_cell_i, vp_cell_i, arrV_store]
  congr 2
  funext q
  by_cases hq : q = i.toNatClampNeg
  · subst hq
    simp [updV, upd, vp_nar]
    try rfl
  · simp [updV, upd, hq]

theorem z_cast {j n : Nat} {f : Nat → Int32} {i x : Int32} (hdg : decode cc pc = .ok (.castore, 1)) (he : cs[j]? = some (.inl (G.2.2.1 1, n, .inl f))) (hin : vp_in i n) (kk : Z (own, cc, nL, ret, ini) G d Post (pc + 1) L (rest) (cs.set j (.inl (G.2.2.1 1, n, .inl (upd f i.toNatClampNeg (vp_nar .char x)))))) : Z (own, cc, nL, ret, ini) G d Post (pc) L (.int x :: .int i :: .ref (G.1 + j) :: rest) cs := by
  intro p l e R s m args below meth c H locs cells slots ls Q hC hB hL hR hq
  refine W.cast hC.1 hC.2.1 (hB.2.1 j _ (xIx_at he)) ((hB.2.2.2.1.2 1 _ rfl).1 n (fun j => .int (f j))) (fun q => by cases q) (by show ¬ (i < 0 ∨ (arrV _ _ _).slots.size ≤ _); rw [arrV_size]; exact hin) rfl rfl hdg fun H1 e1 z oq => ?_
  refine kk p l e R s m args below meth c H1 _ cells slots ls Q hC (hB.put he rfl ?_ (hB.2.1 j _ (xIx_at he)) e1 z oq) hL hR hq
  show H1[G.1 + j]? = some (vp_cell _ _)
  rw [e1, vp_cell_i, vp_cell_i, arrV_store]
  congr 2
  funext q
  by_cases hq : q = i.toNatClampNeg
  · subst hq
    simp [updV, upd, vp_nar]
    try rfl
  · simp [updV, upd, hq]

theorem z_zast {j n : Nat} {f : Nat → Int32} {i x : Int32} (hdg : decode cc pc = .ok (.bastore, 1)) (he : cs[j]? = some (.inl (G.2.2.1 2, n, .inl f))) (hin : vp_in i n) (kk : Z (own, cc, nL, ret, ini) G d Post (pc + 1) L (rest) (cs.set j (.inl (G.2.2.1 2, n, .inl (upd f i.toNatClampNeg (vp_nar .boolean x)))))) : Z (own, cc, nL, ret, ini) G d Post (pc) L (.int x :: .int i :: .ref (G.1 + j) :: rest) cs := by
  intro p l e R s m args below meth c H locs cells slots ls Q hC hB hL hR hq
  refine W.zast hC.1 hC.2.1 (hB.2.1 j _ (xIx_at he)) ((hB.2.2.2.1.2 2 _ rfl).1 n (fun j => .int (f j))) (fun q => by cases q) (by show ¬ (i < 0 ∨ (arrV _ _ _).slots.size ≤ _); rw [arrV_size]; exact hin) rfl rfl hdg fun H1 e1 z oq => ?_
  refine kk p l e R s m args below meth c H1 _ cells slots ls Q hC (hB.put he rfl ?_ (hB.2.1 j _ (xIx_at he)) e1 z oq) hL hR hq
  show H1[G.1 + j]? = some (vp_cell _ _)
  rw [e1, vp_cell_i, vp_cell_i, arrV_store]
  congr 2
  funext q
  by_cases hq : q = i.toNatClampNeg
  · subst hq
    simp [updV, upd, vp_nar]
    try rfl
  · simp [updV, upd, hq]

theorem z_alen {j : Nat} {cA : ClassId} {x : vp_A} {t0 : Nat} {ty : FieldType} {v : Int32} (hdg : decode cc pc = .ok (.arraylength, 1)) (he : cs[j]? = some (.inl (cA, x))) (ht : (xTy G)[t0]? = some (cA, ty)) (hv : Int32.ofNat x.1 = v) (kk : Z (own, cc, nL, ret, ini) G d Post (pc + 1) L (.int v :: rest) cs) : Z (own, cc, nL, ret, ini) G d Post (pc) L (.ref (G.1 + j) :: rest) cs := by
  intro p l e R s m args below meth c H locs cells slots ls Q hC hB hL hR hq
  exact va_alen (D := G.2.1) hC.1 hC.2.1 hB.2.2.2.1 hB.2.1 j t0 (xIx_at he) ht hv hdg (kk p l e R s m args below meth c H locs cells slots ls Q hC hB hL hR hq)
theorem xB.push {s : State} {H H1 : Heap} {locs : List Loc} {e : va_E} {cell : Cell} (hB : xB G cs s H locs) (he : va_at G.2.1 vwCl (G.1 + cs.length, e) H1) (hc : H1[G.1 + cs.length]? = some cell) (hsz : cell.slots.size = xSzE e) (hcap : cs.length + 1 ≤ 600000 ∧ xZ cs + xSzE e ≤ 7302250) (z : H1.size = H.size + 1) (oq : ∀ q : Nat, q < H.size → H1[q]? = H[q]?) : xB G (cs ++ [e]) s H1 locs := by
  obtain ⟨h1, h2, h3, h4, h5, h6, h7, h8, h9⟩ := hB
  refine ⟨by rw [z, h1]; simp; omega, ?_, ⟨by rw [z]; exact Nat.le_succ_of_le h3.1, fun q g1 g2 => ?_, h3.2.2⟩, h4, h5, h6, h7, fun i x hx => ?_, ?_⟩
  · rw [← xIx_push]
    refine (h2.kept (fun k x hx => oq x.1 ((h2 k x hx).lt))).app (fun k x hx => ?_)
    have hz : k < 1 := (List.getElem?_eq_some_iff.mp hx).1
    rw [show k = 0 by omega] at hx
    cases hx
    exact he
  · rw [oq q (Nat.lt_of_lt_of_le g1 h3.1)]
    exact h3.2.1 q g1 g2
  · by_cases hi : i < cs.length
    · rw [List.getElem?_append_left hi] at hx
      obtain ⟨c0, g1, g2⟩ := h8 i _ hx
      exact ⟨c0, by rw [oq _ (by omega)]; exact g1, g2⟩
    · rw [List.getElem?_append_right (by omega)] at hx
      have hz : i - cs.length < 1 := (List.getElem?_eq_some_iff.mp hx).1
      have hi2 : i = cs.length := by omega
      subst hi2
      simp at hx
      subst hx
      exact ⟨cell, hc, hsz⟩
  · refine ⟨by simp; omega, ?_⟩
    have : xZ (cs ++ [e]) = xZ cs + xSzE e := by simp [xZ]
    rw [this]
    exact hcap.2
theorem z_new {C : String} {T : u_T} {N ci index : Nat} {ty : Nat → FieldType} {fs : List Value} (hc : xCl ci C T N ty) (hl : Cond.classLink own index C ∈ xTs) (hi : Cond.instantiable C N ∈ xTs) (hn : Cond.initialized C ∈ xTs) (hdg : decode cc pc = .ok (.new index, 3)) (hfs : ∀ j, j < N → defaultValue (ty j) = vp_V fs j) (hcap : cs.length + 1 ≤ 600000 ∧ xZ cs + N ≤ 7302250) (kk : Z (own, cc, nL, ret, ini) G d Post (pc + 3) L (.ref (G.1 + cs.length) :: rest) (cs ++ [.inr (ci, fs)])) : Z (own, cc, nL, ret, ini) G d Post pc L rest cs := by
  intro p l e R s m args below meth c H locs cells slots ls Q hC hB hL hR hq
  have hts := hC.2.2.2.2.1
  have hKn := hB.2.2.2.1.1 ci _ hc.1
  have hR0 := hR
  unfold xRoom at hR
  have hsz := hB.1
  have hS1 := hB.2.2.1.1
  have hN : xSzE (.inr (ci, fs)) = N := by simp [xSzE, hc.1]
  refine x_tight hB fun hzz => (W.newc hC.1 hC.2.1 hC.2.2.2.1 (hts _ hl) (hts _ hi) (hts _ hn) rfl hdg (by omega) (by omega) fun cC kC hfC hkC hkind hkN => ?_)
  have hcC : cC = G.2.1.1 ci := Option.some.inj (hfC.symm.trans hKn.2.1)
  subst hcC
  have e1 : (H.push (blank (G.2.1.1 ci) kC))[G.1 + cs.length]? = some (blank (G.2.1.1 ci) kC) := by rw [← hsz]; simp
  rw [show (Value.ref H.size) = .ref (G.1 + cs.length) by rw [hsz]]
  refine kk p l e R s m args below meth c _ locs _ _ ls Q hC (hB.push ⟨_, hc.1, (u_born ty hts hc.2.1 hKn hkC e1 hc.2.2.1).to hfs⟩ e1 (by rw [hN, ← hkN]; simp [blank]) (by rw [hN]; exact hcap) (by simp) (fun q h => by rw [Array.getElem?_push, if_neg (Nat.ne_of_lt h)])) hL hR0 hq

theorem z_newa_int {n : Int32} {N : Nat} (hw : Cond.arrayClass .int ∈ xTs) (hdg : decode cc pc = .ok (.newarray .int, 2)) (hn : ¬ n < 0) (hN : n.toNatClampNeg = N) (hb : N ≤ 100000) (hcap : cs.length + 1 ≤ 600000 ∧ xZ cs + N ≤ 7302250) (kk : Z (own, cc, nL, ret, ini) G d Post (pc + 2) L (.ref (G.1 + cs.length) :: rest) (cs ++ [.inl (G.2.2.1 0, N, .inl (fun _ => 0))])) : Z (own, cc, nL, ret, ini) G d Post pc L (.int n :: rest) cs := by
  intro p l e R s m args below meth c H locs cells slots ls Q hC hB hL hR hq
  have hR0 := hR
  unfold xRoom at hR
  have hsz := hB.1
  have hS1 := hB.2.2.1.1
  refine x_tight hB fun hzz => (va_newaK hC.1 hC.2.1 (atype := .int) (hC.2.2.2.2.1 _ hw) rfl hdg rfl hn hN (by show N * componentBytes .int ≤ _; simp [componentBytes]; omega) (by omega) (by omega) hB.1 fun H1 cA e1 z1 o1 hAr hNm => ?_)
  have hcA : cA = G.2.2.1 0 := by
    have h2 : s.vm.findClass ("[" ++ (.int : FieldType).toString) = some (G.2.2.1 0) := (hB.2.2.2.1.2 0 _ rfl).2
    exact Option.some.inj (hNm.symm.trans h2)
  subst hcA
  have e2 : H1[G.1 + cs.length]? = some (vp_cell (G.2.2.1 0) (N, .inl (fun _ => 0))) := by rw [e1]; rfl
  exact kk p l e R s m args below meth c H1 locs _ _ ls Q hC (hB.push (show H1[G.1 + cs.length]? = some (vp_cell _ _) from e2) e2 (by rw [vp_cell_i, arrV_size]; rfl) hcap (by rw [z1, hB.1]) (fun q h => o1 q (by rw [← hB.1]; exact h))) hL hR0 hq

theorem z_newa_char {n : Int32} {N : Nat} (hw : Cond.arrayClass .char ∈ xTs) (hdg : decode cc pc = .ok (.newarray .char, 2)) (hn : ¬ n < 0) (hN : n.toNatClampNeg = N) (hb : N ≤ 100000) (hcap : cs.length + 1 ≤ 600000 ∧ xZ cs + N ≤ 7302250) (kk : Z (own, cc, nL, ret, ini) G d Post (pc + 2) L (.ref (G.1 + cs.length) :: rest) (cs ++ [.inl (G.2.2.1 1, N, .inl (fun _ => 0))])) : Z (own, cc, nL, ret, ini) G d Post pc L (.int n :: rest) cs := by
  intro p l e R s m args below meth c H locs cells slots ls Q hC hB hL hR hq
  have hR0 := hR
  unfold xRoom at hR
  have hsz := hB.1
  have hS1 := hB.2.2.1.1
  refine x_tight hB fun hzz => (va_newaK hC.1 hC.2.1 (atype := .char) (hC.2.2.2.2.1 _ hw) rfl hdg rfl hn hN (by show N * componentBytes .char ≤ _; simp [componentBytes]; omega) (by omega) (by omega) hB.1 fun H1 cA e1 z1 o1 hAr hNm => ?_)
  have hcA : cA = G.2.2.1 1 := by
    have h2 : s.vm.findClass ("[" ++ (.char : FieldType).toString) = some (G.2.2.1 1) := (hB.2.2.2.1.2 1 _ rfl).2
    exact Option.some.inj (hNm.symm.trans h2)
  subst hcA
  have e2 : H1[G.1 + cs.length]? = some (vp_cell (G.2.2.1 1) (N, .inl (fun _ => 0))) := by rw [e1]; rfl
  exact kk p l e R s m args below meth c H1 locs _ _ ls Q hC (hB.push (show H1[G.1 + cs.length]? = some (vp_cell _ _) from e2) e2 (by rw [vp_cell_i, arrV_size]; rfl) hcap (by rw [z1, hB.1]) (fun q h => o1 q (by rw [← hB.1]; exact h))) hL hR0 hq

theorem z_newa_bool {n : Int32} {N : Nat} (hw : Cond.arrayClass .boolean ∈ xTs) (hdg : decode cc pc = .ok (.newarray .boolean, 2)) (hn : ¬ n < 0) (hN : n.toNatClampNeg = N) (hb : N ≤ 100000) (hcap : cs.length + 1 ≤ 600000 ∧ xZ cs + N ≤ 7302250) (kk : Z (own, cc, nL, ret, ini) G d Post (pc + 2) L (.ref (G.1 + cs.length) :: rest) (cs ++ [.inl (G.2.2.1 2, N, .inl (fun _ => 0))])) : Z (own, cc, nL, ret, ini) G d Post pc L (.int n :: rest) cs := by
  intro p l e R s m args below meth c H locs cells slots ls Q hC hB hL hR hq
  have hR0 := hR
  unfold xRoom at hR
  have hsz := hB.1
  have hS1 := hB.2.2.1.1
  refine x_tight hB fun hzz => (va_newaK hC.1 hC.2.1 (atype := .boolean) (hC.2.2.2.2.1 _ hw) rfl hdg rfl hn hN (by show N * componentBytes .boolean ≤ _; simp [componentBytes]; omega) (by omega) (by omega) hB.1 fun H1 cA e1 z1 o1 hAr hNm => ?_)
  have hcA : cA = G.2.2.1 2 := by
    have h2 : s.vm.findClass ("[" ++ (.boolean : FieldType).toString) = some (G.2.2.1 2) := (hB.2.2.2.1.2 2 _ rfl).2
    exact Option.some.inj (hNm.symm.trans h2)
  subst hcA
  have e2 : H1[G.1 + cs.length]? = some (vp_cell (G.2.2.1 2) (N, .inl (fun _ => 0))) := by rw [e1]; rfl
  exact kk p l e R s m args below meth c H1 locs _ _ ls Q hC (hB.push (show H1[G.1 + cs.length]? = some (vp_cell _ _) from e2) e2 (by rw [vp_cell_i, arrV_size]; rfl) hcap (by rw [z1, hB.1]) (fun q h => o1 q (by rw [← hB.1]; exact h))) hL hR0 hq

/-! String constants, statics -/
theorem z_ldcS {idx i : Nat} {tx : String} (h : (own, idx, tx, i) ∈ xStrs) (hdg : decode cc pc = .ok (.ldc idx, 2)) (kk : Z (own, cc, nL, ret, ini) G d Post (pc + 2) L (.ref (G.2.2.2.1 i) :: rest) cs) : Z (own, cc, nL, ret, ini) G d Post (pc) L (rest) cs := by
  intro p l e R s m args below meth c H locs cells slots ls Q hC hB hL hR hq
  exact va_ldcS hC.1 hC.2.1 hC.2.2.2.1 (hB.2.2.2.2.2.1.2.1 _ h) hdg (kk p l e R s m args below meth c H locs cells slots ls Q hC hB hL hR hq)
theorem z_sgetV {idx i : Nat} (hi : i < xN) (hl : Cond.fieldLink own idx "java/lang/String" "value" "[B" ∈ xTs) (hdg : decode cc pc = .ok (.getfield idx, 3)) (kk : Z (own, cc, nL, ret, ini) G d Post (pc + 3) L (.ref (G.2.2.2.2.1 i) :: rest) cs) : Z (own, cc, nL, ret, ini) G d Post (pc) L (.ref (G.2.2.2.1 i) :: rest) cs := by
  intro p l e R s m args below meth c H locs cells slots ls Q hC hB hL hR hq
  exact vk_getf hC.1 hC.2.1 (hB.2.2.2.2.2.1.1 i hi).2.2.1 hB.2.2.1 hC.2.2.2.1 (hC.2.2.2.2.1 _ hl) (fun _ h => h) hdg (kk p l e R s m args below meth c H locs cells slots ls Q hC hB hL hR hq)
theorem z_sgetC {idx i : Nat} (hi : i < xN) (hl : Cond.fieldLink own idx "java/lang/String" "coder" "B" ∈ xTs) (hdg : decode cc pc = .ok (.getfield idx, 3)) (kk : Z (own, cc, nL, ret, ini) G d Post (pc + 3) L (.int 0 :: rest) cs) : Z (own, cc, nL, ret, ini) G d Post (pc) L (.ref (G.2.2.2.1 i) :: rest) cs := by
  intro p l e R s m args below meth c H locs cells slots ls Q hC hB hL hR hq
  exact vk_getf hC.1 hC.2.1 (hB.2.2.2.2.2.1.1 i hi).2.1 hB.2.2.1 hC.2.2.2.1 (hC.2.2.2.2.1 _ hl) (fun _ h => h) hdg (kk p l e R s m args below meth c H locs cells slots ls Q hC hB hL hR hq)
theorem z_slen {i : Nat} (hi : i < xN) (hdg : decode cc pc = .ok (.arraylength, 1)) (kk : Z (own, cc, nL, ret, ini) G d Post (pc + 1) L (.int (nI (xLen.getD i 0)) :: rest) cs) : Z (own, cc, nL, ret, ini) G d Post (pc) L (.ref (G.2.2.2.2.1 i) :: rest) cs := by
  intro p l e R s m args below meth c H locs cells slots ls Q hC hB hL hR hq
  exact va_tlen hC.1 hC.2.1 (hB.2.2.2.2.2.1.1 i hi).2.2.2 hB.2.2.1 rfl hdg (kk p l e R s m args below meth c H locs cells slots ls Q hC hB hL hR hq)
theorem z_sald {i : Nat} {j : Int32} (hi : i < xN) (hj : vp_in j (xLen.getD i 0)) (hdg : decode cc pc = .ok (.baload, 1)) (kk : Z (own, cc, nL, ret, ini) G d Post (pc + 1) L (.int ((xByt.getD i []).getD j.toNatClampNeg 0) :: rest) cs) : Z (own, cc, nL, ret, ini) G d Post (pc) L (.int j :: .ref (G.2.2.2.2.1 i) :: rest) cs := by
  intro p l e R s m args below meth c H locs cells slots ls Q hC hB hL hR hq
  exact va_tb hC.1 hC.2.1 (hB.2.2.2.2.2.1.1 i hi).2.2.2 hB.2.2.1 hj rfl hdg (kk p l e R s m args below meth c H locs cells slots ls Q hC hB hL hR hq)
theorem z_gets1 {idx : Nat} (hl : Cond.fieldLink own idx "java/lang/String" "COMPACT_STRINGS" "Z" ∈ xTs) (hdg : decode cc pc = .ok (.getstatic idx, 3)) (kk : Z (own, cc, nL, ret, ini) G d Post (pc + 3) L (.int 1 :: rest) cs) : Z (own, cc, nL, ret, ini) G d Post (pc) L (rest) cs := by
  intro p l e R s m args below meth c H locs cells slots ls Q hC hB hL hR hq
  exact va_gets hC.1 hC.2.1 hB.2.2.2.2.2.1.2.2.1 hB.2.2.1 hC.2.2.2.1 (hC.2.2.2.2.1 _ hl) (fun _ h => h) hdg (kk p l e R s m args below meth c H locs cells slots ls Q hC hB hL hR hq)
theorem z_gets2 {idx : Nat} (hl : Cond.fieldLink own idx "jdk/internal/util/Preconditions" "SIOOBE_FORMATTER" "Ljava/util/function/BiFunction;" ∈ xTs) (hdg : decode cc pc = .ok (.getstatic idx, 3)) (kk : ∀ v : Value, (v = .null ∨ ∃ q : Nat, v = .ref q) → Z (own, cc, nL, ret, ini) G d Post (pc + 3) L (v :: rest) cs) : Z (own, cc, nL, ret, ini) G d Post (pc) L (rest) cs := by
  intro p l e R s m args below meth c H locs cells slots ls Q hC hB hL hR hq
  obtain ⟨v, h4, h5⟩ := hB.2.2.2.2.2.1.2.2.2.2.2
  exact va_gets hC.1 hC.2.1 h5 hB.2.2.1 hC.2.2.2.1 (hC.2.2.2.2.1 _ hl) (fun _ h => h) hdg (kk v h4 p l e R s m args below meth c H locs cells slots ls Q hC hB hL hR hq)
theorem z_scl (hdg : decode cc pc = .ok (.arraylength, 1)) (kk : Z (own, cc, nL, ret, ini) G d Post (pc + 1) L (.int (nI G.2.2.2.2.2.2.1) :: rest) cs) : Z (own, cc, nL, ret, ini) G d Post (pc) L (.ref G.2.2.2.2.2.1 :: rest) cs := by
  intro p l e R s m args below meth c H locs cells slots ls Q hC hB hL hR hq
  have hx := hB.2.2.2.2.2.1.2.2.2.1
  have hlt := hB.2.2.2.2.2.1.2.2.2.2.1
  have hb := hB.2.2.2.2.2.2.1
  exact va_slen hC.1 hC.2.1 hx (by omega) (Nat.not_le.mpr hlt) hB.2.2.1 hdg (kk p l e R s m args below meth c H locs cells slots ls Q hC hB hL hR hq)
theorem z_scd {i : Int32} (hi : vp_in i G.2.2.2.2.2.2.1) (hdg : decode cc pc = .ok (.iaload, 1)) (kk : Z (own, cc, nL, ret, ini) G d Post (pc + 1) L (.int (G.2.2.2.2.2.2.2 i.toNatClampNeg) :: rest) cs) : Z (own, cc, nL, ret, ini) G d Post (pc) L (.int i :: .ref G.2.2.2.2.2.1 :: rest) cs := by
  intro p l e R s m args below meth c H locs cells slots ls Q hC hB hL hR hq
  have hx := hB.2.2.2.2.2.1.2.2.2.1
  have hlt := hB.2.2.2.2.2.1.2.2.2.2.1
  have hb := hB.2.2.2.2.2.2.1
  exact va_sld hC.1 hC.2.1 hx (by omega) (Nat.not_le.mpr hlt) hB.2.2.1 hi hdg (kk p l e R s m args below meth c H locs cells slots ls Q hC hB hL hR hq)
/-- System.arraycopy of signs -/
theorem z_copyc {idx j0 j1 n0 n1 : Nat} {f g : Nat → Int32} {sp dp n : Int32} (hl : Cond.methodLink own idx arraycopyName ∈ xTs) (hnat : Cond.native arraycopyName ∈ xTs) (hstat : Cond.static arraycopyName ∈ xTs) (hini : Cond.initialized "java/lang/System" ∈ xTs) (hdg : decode cc pc = .ok (.invokestatic idx, 3)) (h0 : cs[j0]? = some (.inl (G.2.2.1 1, n0, .inl f))) (h1 : cs[j1]? = some (.inl (G.2.2.1 1, n1, .inl g)))
    (a1 : ¬ sp < 0) (a2 : ¬ dp < 0) (a3 : ¬ n < 0) (a4 : sp.toNatClampNeg + n.toNatClampNeg ≤ n0) (a5 : dp.toNatClampNeg + n.toNatClampNeg ≤ n1) (hfit : ∀ i, i < n.toNatClampNeg → fits .char (.int (f (sp.toNatClampNeg + i))) = true) (hd : 1 ≤ d) (hw : (rest.map fun v => v.category).sum ≤ 8)
    (kk : Z (own, cc, nL, ret, ini) G d Post (pc + 3) L (rest) (cs.set j1 (.inl (G.2.2.1 1, n1, .inl (va_cpy f g sp.toNatClampNeg dp.toNatClampNeg n.toNatClampNeg))))) : Z (own, cc, nL, ret, ini) G d Post (pc) L (.int n :: .int dp :: .ref (G.1 + j1) :: .int sp :: .ref (G.1 + j0) :: rest) cs := by
  intro p l e R s m args below meth c H locs cells slots ls Q hC hB hL hR hq
  have hts := hC.2.2.2.2.1
  have hR0 := hR
  unfold xRoom at hR
  have nn : ∀ z : Int32, ¬ z < 0 → z.toInt = (z.toNatClampNeg : Int) := by
    intro z hz
    have hz0 : (0 : Int) ≤ z.toInt := by
      have := Int32.not_lt.mp hz
      simpa using Int32.le_iff_toInt_le.mp this
    show z.toInt = ((z.toInt.toNat : Nat) : Int)
    omega
  have hP := hB.2.1
  have hc0 : H[G.1 + j0]? = some (vp_cell (G.2.2.1 1) (n0, .inl f)) := hP j0 _ (xIx_at h0)
  have hc1 : H[G.1 + j1]? = some (vp_cell (G.2.2.1 1) (n1, .inl g)) := hP j1 _ (xIx_at h1)
  obtain ⟨-, k0, hk0, cm0, hkk0⟩ := (hB.2.2.2.1.2 1 _ rfl).1 n0 (fun j => .int (f j))
  obtain ⟨-, k1, hk1, cm1, hkk1⟩ := (hB.2.2.2.1.2 1 _ rfl).1 n1 (fun j => .int (g j))
  have hnf : nativeFrameWords "java/lang/System" "arraycopy" 5 + 11 ≤ 32 := by decide +kernel
  intro T hT X
  obtain ⟨vm', X', step⟩ := X.arraycopy hC.1 hC.2.2.2.1 (hts _ hl) (hts _ hnat) (hts _ hstat) (hts _ hini) (src := G.1 + j0) (dst := G.1 + j1) (cs := vp_cell (G.2.2.1 1) (n0, .inl f)) (cd := vp_cell (G.2.2.1 1) (n1, .inl g)) (srcPos := sp) (destPos := dp) (n := n) (by rw [hT]; exact hc0) (by rw [hT]; exact hc1)
    (fun _ h => by cases h) (fun _ h => by cases h) (fun h => by cases h) (fun h => by cases h) hk0 hk1 hkk0 hkk1 (by simp [refKind]) a1 a2 a3
    (by rw [nn sp a1, nn n a3]; show ¬ _ > ((arrV (G.2.2.1 1) n0 (fun j => .int (f j))).slots.size : Int); rw [arrV_size]; omega)
    (by rw [nn dp a2, nn n a3]; show ¬ _ > ((arrV (G.2.2.1 1) n1 (fun j => .int (g j))).slots.size : Int); rw [arrV_size]; omega)
    (fun vm₁ _ i hi => by
      have e : (vp_cell (G.2.2.1 1) (n0, .inl f)).slots.getD (sp.toNatClampNeg + i) .null = .int (f (sp.toNatClampNeg + i)) := by
        show (arrV (G.2.2.1 1) n0 (fun j => .int (f j))).slots.getD _ _ = _
        rw [Array.getD_eq_getD_getElem?, arrV_read _ _ (by omega)]
        rfl
      refine ⟨?_, ?_⟩
      · rw [e]
        exact hfit i hi
      · rw [e]
        exact trivial)
    (g := F0 m pc ls (.int n :: .int dp :: .ref (G.1 + j1) :: .int sp :: .ref (G.1 + j0) :: rest)) rfl (by show ls.size = _; rw [hC.2.2.1]; exact hL.1) (rest := rest) rfl (by rw [hC.2.1]; exact hdg) (by omega) (by show 2 * 0 + _ + _ ≤ _; omega)
  have e1 : copied (vp_cell (G.2.2.1 1) (n0, .inl f)) (vp_cell (G.2.2.1 1) (n1, .inl g)) sp dp n = vp_cell (G.2.2.1 1) (n1, .inl (va_cpy f g sp.toNatClampNeg dp.toNatClampNeg n.toNatClampNeg)) := va_copied (fun z => .int z) (G.2.2.1 1) (G.2.2.1 1) f g a4
  rw [e1] at X' step
  have hlt : G.1 + j1 < H.size := (Array.getElem?_eq_some_iff.mp hc1).1
  have hheap : ((T.setVm vm').setCell (G.1 + j1) (vp_cell (G.2.2.1 1) (n1, .inl (va_cpy f g sp.toNatClampNeg dp.toNatClampNeg n.toNatClampNeg)))).heap = H.setIfInBounds (G.1 + j1) (vp_cell (G.2.2.1 1) (n1, .inl (va_cpy f g sp.toNatClampNeg dp.toNatClampNeg n.toNatClampNeg))) := by rw [← hT]; rfl
  have oq : ∀ q : Nat, q ≠ G.1 + j1 → (H.setIfInBounds (G.1 + j1) (vp_cell (G.2.2.1 1) (n1, .inl (va_cpy f g sp.toNatClampNeg dp.toNatClampNeg n.toNatClampNeg))))[q]? = H[q]? := fun q hq => by simp [Array.getElem?_setIfInBounds, Ne.symm hq]
  have hat : (H.setIfInBounds (G.1 + j1) (vp_cell (G.2.2.1 1) (n1, .inl (va_cpy f g sp.toNatClampNeg dp.toNatClampNeg n.toNatClampNeg))))[G.1 + j1]? = some (vp_cell (G.2.2.1 1) (n1, .inl (va_cpy f g sp.toNatClampNeg dp.toNatClampNeg n.toNatClampNeg))) := by simp [Array.getElem?_setIfInBounds, hlt]
  have hS := hB.2.2.1
  obtain ⟨t, b1, b2⟩ := kk p l e R s m args below meth c _ _ _ _ ls Q hC (hB.put2 h1 rfl hat ⟨_, hat, by rw [vp_cell_i, arrV_size]; rfl⟩ (by simp) oq ⟨by simp; exact hS.1, fun q g1 g2 => by
      rw [oq q (fun e => g2 (by rw [e]; exact Nat.le_add_right _ _))]
      exact hS.2.1 q g1 g2, fun q hq => by
      rcases List.mem_append.mp hq with h | h
      · exact hS.2.2 q h
      · obtain ⟨z, -, hz⟩ := List.mem_map.mp h
        rw [← hz]
        exact Nat.le_add_right _ _⟩) hL hR0 hq _ hheap X'
  exact ⟨t, step t b1, b2⟩

end ZR

