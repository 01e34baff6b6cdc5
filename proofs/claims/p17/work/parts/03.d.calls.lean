/-! THE RULES FOR CALLS -/
section ZC0
variable {p : Program} {l : Launch} {e : Env} {R : Room} {s : State} {m : MethodId} {args : Array Value} {below : List Frame} {meth : Method} {c : Code} {H : Heap} {locs : List Loc} {cells slots mc ms : Nat} {Q : State → Prop} {pc : Nat} {ls : Array Slot} {rest st0 : List Value}
theorem x_call {Qa : State → Outcome → State → Prop} {free : Addr → Prop} (hr : va_Run p l e R s m args below meth c H locs cells slots mc ms (F0 m pc ls st0) rest Qa free)
    (kk : ∀ (v : Option Value) (st t : State) (Lc : List Loc), st.heap = H → Qa st (.returned v) t → (∀ q ∈ Lc, free q.base) → W p l e R s m args below meth c t.heap (locs ++ Lc) (cells + mc) (slots + ms) Q (F0 m (pc + 3) ls (v.toList ++ rest))) : W p l e R s m args below meth c H locs cells slots Q (F0 m pc ls st0) := by
  intro T hT X
  obtain ⟨v, st, t, T', Lc, h1, X', h2, h3, h4, h5, hg⟩ := hr T hT X
  obtain ⟨tt, a1, b1⟩ := kk v st t Lc h1 h5 h2 T' h3 X'
  exact ⟨tt, hg tt a1, b1⟩
end ZC0
theorem xGood {y : MethodName} {bytes : ByteArray} {maxL : Nat} {rt : Option FieldType} (h : Cond.code y bytes maxL rt ∈ xTs) : GoodIn xTs (Cond.code y bytes maxL rt :: xTs) := by
  intro w hw
  have hm : w ∈ xTs := (List.mem_cons.mp hw).elim (fun e => by rw [e]; exact h) id
  exact ⟨hm, good_of_word (List.mem_filter.mp hm).2⟩
def xDs (y : MethodName) (n : Nat) : Prop := y.cls ≠ "java/lang/invoke/MethodHandle" ∧ y.cls ≠ "java/lang/invoke/VarHandle" ∧ (parseMethodDescriptor y.desc).map (fun d => d.parameters.length) = some n
/-- what every call needs of its callee -/
def xCe (y : MethodName) (bytes : ByteArray) (maxL : Nat) (rt : Option FieldType) (n : Nat) : Prop := Cond.initialized y.cls ∈ xTs ∧ Cond.code y bytes maxL rt ∈ xTs ∧ xDs y n ∧ maxL ≤ 21
def xCi (y : MethodName) : Prop := Cond.instanceMethod y ∈ xTs ∧ Cond.selects y.cls y y ∈ xTs
section ZC
variable {own : String} {cc : ByteArray} {nL : Nat} {ret : Option FieldType} {ini : Bool} {G : xG} {d : Nat} {Post : xP} {pc : Nat} {L : List (Nat × Value)} {rest : List Value} {cs : List va_E}
variable {y : MethodName} {bytes : ByteArray} {maxL n idx d1 : Nat} {rt : Option FieldType} {As : List Value} {Post1 : xP}

theorem z_callV {j ci N : Nat} {T : u_T} {fs : List Value} (he : xCe y bytes maxL rt n) (hi : xCi y) (hl : Cond.methodLink own idx y ∈ xTs) (hcl : vwCl[ci]? = some (y.cls, T, N)) (hdg : decode cc pc = .ok (.invokevirtual idx, 3)) (hj : cs[j]? = some (.inr (ci, fs))) (hX : X G y bytes maxL rt d1 (.ref (G.1 + j) :: As) cs Post1) (hd : d1 + 1 ≤ d) (hn : As.length = n) (hw : (rest.map fun v => v.category).sum ≤ 8) (kk : ∀ (r : Option Value) (cs1 : List va_E), Post1 r cs1 → Z (own, cc, nL, ret, ini) G d Post (pc + 3) L (r.toList ++ rest) cs1) : Z (own, cc, nL, ret, ini) G d Post pc L (As.reverse ++ .ref (G.1 + j) :: rest) cs := by
  intro p l e R s m args below meth c H locs cells slots ls Q hC hB hL hR hq
  have hts := hC.2.2.2.2.1
  have hR0 := hR
  have hcap := hB.2.2.2.2.2.2.2.2
  have hsz := hB.1
  have hS1 := hB.2.2.1.1
  unfold xRoom at hR
  unfold xCap at hcap
  refine x_tight hB fun hzz => ?_
  have hrun := va_runV (C := y.cls) (b := G.1 + j) (As := As) (rest := rest) (g := F0 m pc ls (As.reverse ++ .ref (G.1 + j) :: rest)) (locs := locs) (cells := G.1 + cs.length - s.heap.size) (slots := xZ cs - xSum G.1 s.heap) (e := e) (below := below) (meth := meth) ⟨hC.1, hC.2.1, hC.2.2.1, hC.2.2.2.1, hts⟩ (hX l) ⟨callB_of n hts (xGood he.2.1) rfl rfl rfl (hts _ he.1) (hts _ hl) he.2.2.1 ⟨by show d1 + 1 ≤ R.frames; omega, by show 8 + (maxL + 11) + 40 * d1 ≤ R.locals; have := he.2.2.2; omega⟩, hts _ hi.1, hts _ hi.2⟩ ⟨xW_blind, va_recv hB.2.2.2.1 hB.2.1 hcl (xIx_at hj), fun U hU hW => ⟨rfl, hB.toW hU hW⟩⟩ rfl hn hL.1 rfl (lv_room hw) hdg ⟨by omega, by omega⟩
  refine x_call hrun fun v st t Lc h1 h2 h3 => ?_
  obtain ⟨⟨r, cs1, e1, hp, hw1⟩, hF⟩ := h2
  cases e1
  exact kk v cs1 hp p l e R s m args below meth c t.heap (locs ++ Lc) _ _ ls Q hC (hB.back h1 hw1 hF h3) hL hR0 hq

theorem z_callVN {j ci N : Nat} {T : u_T} {fs : List Value} (he : xCe y bytes maxL rt n) (hi : xCi y) {host : String} (hl : (own, idx, y, host) ∈ xNest) (hcl : vwCl[ci]? = some (y.cls, T, N)) (hdg : decode cc pc = .ok (.invokevirtual idx, 3)) (hj : cs[j]? = some (.inr (ci, fs))) (hX : X G y bytes maxL rt d1 (.ref (G.1 + j) :: As) cs Post1) (hd : d1 + 1 ≤ d) (hn : As.length = n) (hw : (rest.map fun v => v.category).sum ≤ 8) (kk : ∀ (r : Option Value) (cs1 : List va_E), Post1 r cs1 → Z (own, cc, nL, ret, ini) G d Post (pc + 3) L (r.toList ++ rest) cs1) : Z (own, cc, nL, ret, ini) G d Post pc L (As.reverse ++ .ref (G.1 + j) :: rest) cs := by
  intro p l e R s m args below meth c H locs cells slots ls Q hC hB hL hR hq
  have hts := hC.2.2.2.2.1
  have hR0 := hR
  have hcap := hB.2.2.2.2.2.2.2.2
  have hsz := hB.1
  have hS1 := hB.2.2.1.1
  unfold xRoom at hR
  unfold xCap at hcap
  refine x_tight hB fun hzz => ?_
  have hrun := va_runVN (C := y.cls) (b := G.1 + j) (As := As) (rest := rest) (g := F0 m pc ls (As.reverse ++ .ref (G.1 + j) :: rest)) (locs := locs) (cells := G.1 + cs.length - s.heap.size) (slots := xZ cs - xSum G.1 s.heap) (e := e) (below := below) (meth := meth) ⟨hC.1, hC.2.1, hC.2.2.1, hC.2.2.2.1, hts⟩ (hX l) ⟨va_cnB n hts (xGood he.2.1) rfl rfl rfl (hB.2.2.2.2.1 _ hl) (hts _ he.1) he.2.2.1 ⟨by show d1 + 1 ≤ R.frames; omega, by show 8 + (maxL + 11) + 40 * d1 ≤ R.locals; have := he.2.2.2; omega⟩, hts _ hi.1, hts _ hi.2⟩ ⟨xW_blind, va_recv hB.2.2.2.1 hB.2.1 hcl (xIx_at hj), fun U hU hW => ⟨rfl, hB.toW hU hW⟩⟩ rfl hn hL.1 rfl (lv_room hw) hdg ⟨by omega, by omega⟩
  refine x_call hrun fun v st t Lc h1 h2 h3 => ?_
  obtain ⟨⟨r, cs1, e1, hp, hw1⟩, hF⟩ := h2
  cases e1
  exact kk v cs1 hp p l e R s m args below meth c t.heap (locs ++ Lc) _ _ ls Q hC (hB.back h1 hw1 hF h3) hL hR0 hq

theorem z_callVS {i : Nat} (hs : i < xN) (he : xCe y bytes maxL rt n) (hi : xCi y) (hl : Cond.methodLink own idx y ∈ xTs) (hcl : y.cls = "java/lang/String") (hdg : decode cc pc = .ok (.invokevirtual idx, 3)) (hX : X G y bytes maxL rt d1 (.ref (G.2.2.2.1 i) :: As) cs Post1) (hd : d1 + 1 ≤ d) (hn : As.length = n) (hw : (rest.map fun v => v.category).sum ≤ 8) (kk : ∀ (r : Option Value) (cs1 : List va_E), Post1 r cs1 → Z (own, cc, nL, ret, ini) G d Post (pc + 3) L (r.toList ++ rest) cs1) : Z (own, cc, nL, ret, ini) G d Post pc L (As.reverse ++ .ref (G.2.2.2.1 i) :: rest) cs := by
  intro p l e R s m args below meth c H locs cells slots ls Q hC hB hL hR hq
  have hts := hC.2.2.2.2.1
  have hR0 := hR
  have hcap := hB.2.2.2.2.2.2.2.2
  have hsz := hB.1
  have hS1 := hB.2.2.1.1
  unfold xRoom at hR
  unfold xCap at hcap
  refine x_tight hB fun hzz => ?_
  have hrun := va_runV (C := y.cls) (b := G.2.2.2.1 i) (As := As) (rest := rest) (g := F0 m pc ls (As.reverse ++ .ref (G.2.2.2.1 i) :: rest)) (locs := locs) (cells := G.1 + cs.length - s.heap.size) (slots := xZ cs - xSum G.1 s.heap) (e := e) (below := below) (meth := meth) ⟨hC.1, hC.2.1, hC.2.2.1, hC.2.2.2.1, hts⟩ (hX l) ⟨callB_of n hts (xGood he.2.1) rfl rfl rfl (hts _ he.1) (hts _ hl) he.2.2.1 ⟨by show d1 + 1 ≤ R.frames; omega, by show 8 + (maxL + 11) + 40 * d1 ≤ R.locals; have := he.2.2.2; omega⟩, hts _ hi.1, hts _ hi.2⟩ ⟨xW_blind, by
    rw [hcl]
    obtain ⟨cell, g1, g2, g3, -⟩ := (hB.2.2.2.2.2.1.1 i hs).1.kept hB.2.2.1.2.1
    exact ⟨cell, g1, g2, g3⟩, fun U hU hW => ⟨rfl, hB.toW hU hW⟩⟩ rfl hn hL.1 rfl (lv_room hw) hdg ⟨by omega, by omega⟩
  refine x_call hrun fun v st t Lc h1 h2 h3 => ?_
  obtain ⟨⟨r, cs1, e1, hp, hw1⟩, hF⟩ := h2
  cases e1
  exact kk v cs1 hp p l e R s m args below meth c t.heap (locs ++ Lc) _ _ ls Q hC (hB.back h1 hw1 hF h3) hL hR0 hq

theorem z_callS (he : xCe y bytes maxL rt n) (hi : Cond.static y ∈ xTs) (hl : Cond.methodLink own idx y ∈ xTs) (hdg : decode cc pc = .ok (.invokestatic idx, 3)) (hX : X G y bytes maxL rt d1 As cs Post1) (hd : d1 + 1 ≤ d) (hn : As.length = n) (hw : (rest.map fun v => v.category).sum ≤ 8) (kk : ∀ (r : Option Value) (cs1 : List va_E), Post1 r cs1 → Z (own, cc, nL, ret, ini) G d Post (pc + 3) L (r.toList ++ rest) cs1) : Z (own, cc, nL, ret, ini) G d Post pc L (As.reverse ++ rest) cs := by
  intro p l e R s m args below meth c H locs cells slots ls Q hC hB hL hR hq
  have hts := hC.2.2.2.2.1
  have hR0 := hR
  have hcap := hB.2.2.2.2.2.2.2.2
  have hsz := hB.1
  have hS1 := hB.2.2.1.1
  unfold xRoom at hR
  unfold xCap at hcap
  refine x_tight hB fun hzz => ?_
  have hrun := va_runS (As := As) (rest := rest) (g := F0 m pc ls (As.reverse ++ rest)) (locs := locs) (cells := G.1 + cs.length - s.heap.size) (slots := xZ cs - xSum G.1 s.heap) (e := e) (below := below) (meth := meth) ⟨hC.1, hC.2.1, hC.2.2.1, hC.2.2.2.1, hts⟩ (hX l) ⟨callB_of n hts (xGood he.2.1) rfl rfl rfl (hts _ he.1) (hts _ hl) he.2.2.1 ⟨by show d1 + 1 ≤ R.frames; omega, by show 8 + (maxL + 11) + 40 * d1 ≤ R.locals; have := he.2.2.2; omega⟩, hts _ hi⟩ ⟨xW_blind, fun U hU hW => ⟨rfl, hB.toW hU hW⟩⟩ rfl hn hL.1 rfl (lv_room hw) hdg ⟨by omega, by omega⟩
  refine x_call hrun fun v st t Lc h1 h2 h3 => ?_
  obtain ⟨⟨r, cs1, e1, hp, hw1⟩, hF⟩ := h2
  cases e1
  exact kk v cs1 hp p l e R s m args below meth c t.heap (locs ++ Lc) _ _ ls Q hC (hB.back h1 hw1 hF h3) hL hR0 hq

theorem z_callSN (he : xCe y bytes maxL rt n) (hi : Cond.static y ∈ xTs) {host : String} (hl : (own, idx, y, host) ∈ xNest) (hdg : decode cc pc = .ok (.invokestatic idx, 3)) (hX : X G y bytes maxL rt d1 As cs Post1) (hd : d1 + 1 ≤ d) (hn : As.length = n) (hw : (rest.map fun v => v.category).sum ≤ 8) (kk : ∀ (r : Option Value) (cs1 : List va_E), Post1 r cs1 → Z (own, cc, nL, ret, ini) G d Post (pc + 3) L (r.toList ++ rest) cs1) : Z (own, cc, nL, ret, ini) G d Post pc L (As.reverse ++ rest) cs := by
  intro p l e R s m args below meth c H locs cells slots ls Q hC hB hL hR hq
  have hts := hC.2.2.2.2.1
  have hR0 := hR
  have hcap := hB.2.2.2.2.2.2.2.2
  have hsz := hB.1
  have hS1 := hB.2.2.1.1
  unfold xRoom at hR
  unfold xCap at hcap
  refine x_tight hB fun hzz => ?_
  have hrun := va_runSN (As := As) (rest := rest) (g := F0 m pc ls (As.reverse ++ rest)) (locs := locs) (cells := G.1 + cs.length - s.heap.size) (slots := xZ cs - xSum G.1 s.heap) (e := e) (below := below) (meth := meth) ⟨hC.1, hC.2.1, hC.2.2.1, hC.2.2.2.1, hts⟩ (hX l) ⟨va_cnB n hts (xGood he.2.1) rfl rfl rfl (hB.2.2.2.2.1 _ hl) (hts _ he.1) he.2.2.1 ⟨by show d1 + 1 ≤ R.frames; omega, by show 8 + (maxL + 11) + 40 * d1 ≤ R.locals; have := he.2.2.2; omega⟩, hts _ hi, trivial⟩ ⟨xW_blind, fun U hU hW => ⟨rfl, hB.toW hU hW⟩⟩ rfl hn hL.1 rfl (lv_room hw) hdg ⟨by omega, by omega⟩
  refine x_call hrun fun v st t Lc h1 h2 h3 => ?_
  obtain ⟨⟨r, cs1, e1, hp, hw1⟩, hF⟩ := h2
  cases e1
  exact kk v cs1 hp p l e R s m args below meth c t.heap (locs ++ Lc) _ _ ls Q hC (hB.back h1 hw1 hF h3) hL hR0 hq

theorem z_callI {b : Nat} (he : xCe y bytes maxL none n) (hi : y.name = "<init>" ∧ Cond.instanceMethod y ∈ xTs) (hl : Cond.methodLink own idx y ∈ xTs) (hdg : decode cc pc = .ok (.invokespecial idx, 3)) (hX : X G y bytes maxL none d1 (.ref b :: As) cs Post1) (hd : d1 + 1 ≤ d) (hn : As.length = n) (hw : (rest.map fun v => v.category).sum ≤ 8) (kk : ∀ (r : Option Value) (cs1 : List va_E), Post1 r cs1 → Z (own, cc, nL, ret, ini) G d Post (pc + 3) L (r.toList ++ rest) cs1) : Z (own, cc, nL, ret, ini) G d Post pc L (As.reverse ++ .ref b :: rest) cs := by
  intro p l e R s m args below meth c H locs cells slots ls Q hC hB hL hR hq
  have hts := hC.2.2.2.2.1
  have hR0 := hR
  have hcap := hB.2.2.2.2.2.2.2.2
  have hsz := hB.1
  have hS1 := hB.2.2.1.1
  unfold xRoom at hR
  unfold xCap at hcap
  refine x_tight hB fun hzz => ?_
  have hrun := va_runI (b := b) (As := As) (rest := rest) (g := F0 m pc ls (As.reverse ++ .ref b :: rest)) (locs := locs) (cells := G.1 + cs.length - s.heap.size) (slots := xZ cs - xSum G.1 s.heap) (e := e) (below := below) (meth := meth) ⟨hC.1, hC.2.1, hC.2.2.1, hC.2.2.2.1, hts⟩ (hX l) ⟨callB_of n hts (xGood he.2.1) rfl rfl rfl (hts _ he.1) (hts _ hl) he.2.2.1 ⟨by show d1 + 1 ≤ R.frames; omega, by show 8 + (maxL + 11) + 40 * d1 ≤ R.locals; have := he.2.2.2; omega⟩, hi.1, hts _ hi.2⟩ ⟨xW_blind, fun U hU hW => ⟨rfl, hB.toW hU hW⟩⟩ rfl hn hL.1 rfl (lv_room hw) hdg ⟨by omega, by omega⟩
  refine x_call hrun fun v st t Lc h1 h2 h3 => ?_
  obtain ⟨⟨r, cs1, e1, hp, hw1⟩, hF⟩ := h2
  cases e1
  exact kk v cs1 hp p l e R s m args below meth c t.heap (locs ++ Lc) _ _ ls Q hC (hB.back h1 hw1 hF h3) hL hR0 hq

theorem z_callIN {b : Nat} (he : xCe y bytes maxL none n) (hi : y.name = "<init>" ∧ Cond.instanceMethod y ∈ xTs) {host : String} (hl : (own, idx, y, host) ∈ xNest) (hdg : decode cc pc = .ok (.invokespecial idx, 3)) (hX : X G y bytes maxL none d1 (.ref b :: As) cs Post1) (hd : d1 + 1 ≤ d) (hn : As.length = n) (hw : (rest.map fun v => v.category).sum ≤ 8) (kk : ∀ (r : Option Value) (cs1 : List va_E), Post1 r cs1 → Z (own, cc, nL, ret, ini) G d Post (pc + 3) L (r.toList ++ rest) cs1) : Z (own, cc, nL, ret, ini) G d Post pc L (As.reverse ++ .ref b :: rest) cs := by
  intro p l e R s m args below meth c H locs cells slots ls Q hC hB hL hR hq
  have hts := hC.2.2.2.2.1
  have hR0 := hR
  have hcap := hB.2.2.2.2.2.2.2.2
  have hsz := hB.1
  have hS1 := hB.2.2.1.1
  unfold xRoom at hR
  unfold xCap at hcap
  refine x_tight hB fun hzz => ?_
  have hrun := va_runIN (b := b) (As := As) (rest := rest) (g := F0 m pc ls (As.reverse ++ .ref b :: rest)) (locs := locs) (cells := G.1 + cs.length - s.heap.size) (slots := xZ cs - xSum G.1 s.heap) (e := e) (below := below) (meth := meth) ⟨hC.1, hC.2.1, hC.2.2.1, hC.2.2.2.1, hts⟩ (hX l) ⟨va_cnB n hts (xGood he.2.1) rfl rfl rfl (hB.2.2.2.2.1 _ hl) (hts _ he.1) he.2.2.1 ⟨by show d1 + 1 ≤ R.frames; omega, by show 8 + (maxL + 11) + 40 * d1 ≤ R.locals; have := he.2.2.2; omega⟩, hi.1, hts _ hi.2⟩ ⟨xW_blind, fun U hU hW => ⟨rfl, hB.toW hU hW⟩⟩ rfl hn hL.1 rfl (lv_room hw) hdg ⟨by omega, by omega⟩
  refine x_call hrun fun v st t Lc h1 h2 h3 => ?_
  obtain ⟨⟨r, cs1, e1, hp, hw1⟩, hF⟩ := h2
  cases e1
  exact kk v cs1 hp p l e R s m args below meth c t.heap (locs ++ Lc) _ _ ls Q hC (hB.back h1 hw1 hF h3) hL hR0 hq

theorem z_objInit {a : Nat} (hl : Cond.methodLink own idx objectInit ∈ xTs) (hi : Cond.instanceMethod objectInit ∈ xTs) (hc : Cond.code objectInit ⟨#[0xb1]⟩ 1 none ∈ xTs) (hdg : decode cc pc = .ok (.invokespecial idx, 3)) (hd : 1 ≤ d) (hw : (rest.map fun v => v.category).sum ≤ 8) (kk : Z (own, cc, nL, ret, ini) G d Post (pc + 3) L rest cs) : Z (own, cc, nL, ret, ini) G d Post pc L (.ref a :: rest) cs := by
  intro p l e R s m args below meth c H locs cells slots ls Q hC hB hL hR hq
  have hts := hC.2.2.2.2.1
  have hR0 := hR
  unfold xRoom at hR
  exact W.objInit hC.1 hC.2.1 hC.2.2.2.1 (hts _ hl) (hts _ hi) (hts _ hc) rfl (by rw [hC.2.2.1]; exact hL.1) rfl hdg (by omega) (by show 2 * 0 + _ + 12 ≤ _; omega) (kk p l e R s m args below meth c H locs cells slots ls Q hC hB hL hR0 hq)
end ZC

