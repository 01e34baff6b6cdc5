/-! THE ENV GROWS -/
section EG
variable {e : Env} {nm : List Int} {kd mk : Int}
theorem eC_AC : eC (eAC e nm) = eC e + 1 := rfl
theorem eF_AC (c : Int) : eF (eAC e nm) c = if c = eC e then 0 else eF e c := by
  show (if (4 : Nat) = 4 ∧ c = eC e then (0 : Int) else eF e c) = _
  by_cases q : c = eC e
  · rw [if_pos ⟨rfl, q⟩, if_pos q]
  · rw [if_neg (fun r => q r.2), if_neg q]
theorem eD_AC (c f : Int) : eD (eAC e nm) c f = eD e c f := rfl
theorem eM_AC (c f : Int) : eM (eAC e nm) c f = eM e c f := rfl
theorem eI_AC (c : Int) : eI (eAC e nm) c = if c = eC e then -1 else eI e c := by
  show (if (9 : Nat) = 9 ∧ c = eC e then (-1 : Int) else eI e c) = _
  by_cases q : c = eC e
  · rw [if_pos ⟨rfl, q⟩, if_pos q]
  · rw [if_neg (fun r => q r.2), if_neg q]
theorem eL_AC (k : Int) : eL (eAC e nm) k = if k = eC e then xl nm else if k = 1000 + eC e then nm else eL e k := rfl
theorem eR_AC (k : Int) : eR (eAC e nm) k = if 1000 + k = eC e then xl nm else if 1000 + k = 1000 + eC e then nm else eR e k := rfl
theorem eC_AF : eC (eAF e nm kd mk) = eC e := rfl
theorem eF_AF (c : Int) : eF (eAF e nm kd mk) c = if c = nC e then nF e + 1 else eF e c := by
  show (if (4 : Nat) = 4 ∧ c = nC e then nF e + 1 else eF e c) = _
  by_cases q : c = nC e
  · rw [if_pos ⟨rfl, q⟩, if_pos q]
  · rw [if_neg (fun r => q r.2), if_neg q]
theorem eD_AF (c f : Int) : eD (eAF e nm kd mk) c f = if c = nC e ∧ f = nF e then kd else eD e c f := by
  show (if (5 : Nat) = 5 ∧ c = nC e ∧ f = nF e then kd else eD e c f) = _
  by_cases q : c = nC e ∧ f = nF e
  · rw [if_pos ⟨rfl, q⟩, if_pos q]
  · rw [if_neg (fun r => q r.2), if_neg q]
theorem eM_AF (c f : Int) : eM (eAF e nm kd mk) c f = if c = nC e ∧ f = nF e then mk else eM e c f := by
  show (if (6 : Nat) = 6 ∧ c = nC e ∧ f = nF e then mk else eM e c f) = _
  by_cases q : c = nC e ∧ f = nF e
  · rw [if_pos ⟨rfl, q⟩, if_pos q]
  · rw [if_neg (fun r => q r.2), if_neg q]
theorem eI_AF (c : Int) : eI (eAF e nm kd mk) c = if c = nC e ∧ kd = 3 ∧ mk = 1 then nF e else eI e c := by
  show (if (9 : Nat) = 9 ∧ c = nC e ∧ kd = 3 ∧ mk = 1 then nF e else eI e c) = _
  by_cases q : c = nC e ∧ kd = 3 ∧ mk = 1
  · rw [if_pos ⟨rfl, q⟩, if_pos q]
  · rw [if_neg (fun r => q r.2), if_neg q]
theorem eL_AF (k : Int) : eL (eAF e nm kd mk) k = if k = 6 + nC e * 4 + nF e then xl nm else if k = 1000 + (6 + nC e * 4 + nF e) then nm else eL e k := rfl
theorem eR_AF (k : Int) : eR (eAF e nm kd mk) k = if 1000 + k = 6 + nC e * 4 + nF e then xl nm else if 1000 + k = 1000 + (6 + nC e * 4 + nF e) then nm else eR e k := rfl
/-- what holds of every Env that was read -/
def PV (e : Env) : Prop := iv 0 6 (eC e) ∧ (∀ c, okC e c → iv 0 4 (eF e c) ∧ iv (-1) 3 (eI e c) ∧ eI e c < eF e c ∧ ∀ f, 0 ≤ f → f < eF e c → (eI e c = f ↔ (eD e c f = 3 ∧ eM e c f = 1))) ∧ (∀ c f, okF e c f → iv 0 3 (eD e c f) ∧ iv 0 1 (eM e c f)) ∧ ∀ k, okN e k → eL e k = xl (eR e k) ∧ 1 ≤ (eR e k).length ∧ (eR e k).length ≤ 8
theorem okC_AC {c : Int} (h : okC (eAC e nm) c) : c = eC e ∨ okC e c := by
  obtain ⟨h1, h2⟩ := h
  rw [eC_AC] at h2
  unfold okC
  omega
theorem okF_AC {c f : Int} (h : okF (eAC e nm) c f) : okF e c f ∧ ¬ c = eC e := by
  obtain ⟨h1, h2, h3⟩ := h
  rw [eF_AC] at h3
  by_cases q : c = eC e
  · rw [if_pos q] at h3
    omega
  · rw [if_neg q] at h3
    exact ⟨⟨(okC_AC h1).resolve_left q, h2, h3⟩, q⟩
theorem okN_lt {k : Int} (hV : PV e) (h : okN e k) : iv 0 29 k := by
  rcases h with ⟨h1, h2⟩ | ⟨c, f, ⟨⟨h1, h2⟩, h3, h4⟩, h5⟩
  · have := hV.1
    exact ⟨by omega, by omega⟩
  · have := hV.1
    have := (hV.2.1 c ⟨h1, h2⟩).1
    exact ⟨by omega, by omega⟩
theorem okN_AC {k : Int} (hV : PV e) (h6 : eC e < 6) (h : okN (eAC e nm) k) : k = eC e ∨ (okN e k ∧ ¬ k = eC e) := by
  rcases h with h | ⟨c, f, h, h5⟩
  · rcases okC_AC h with q | q
    · exact Or.inl q
    · exact Or.inr ⟨Or.inl q, by have := q.2; omega⟩
  · have q := (okF_AC h).1
    exact Or.inr ⟨Or.inr ⟨c, f, q, h5⟩, by have := q.1.1; have := q.2.1; omega⟩
theorem PV_AC (hV : PV e) (h6 : eC e < 6) (h1 : 1 ≤ nm.length) (h8 : nm.length ≤ 8) : PV (eAC e nm) := by
  obtain ⟨v1, v2, v3, v4⟩ := id hV
  refine ⟨by rw [eC_AC]; exact ⟨by omega, by omega⟩, fun c hc => ?_, fun c f hf => ?_, fun k hk => ?_⟩
  · rw [eF_AC, eI_AC]
    by_cases q : c = eC e
    · rw [if_pos q, if_pos q]
      exact ⟨⟨by decide, by decide⟩, ⟨by decide, by decide⟩, by decide, fun f f1 f2 => absurd f2 (by omega)⟩
    · rw [if_neg q, if_neg q]
      exact v2 c ((okC_AC hc).resolve_left q)
  · exact v3 c f (okF_AC hf).1
  · rw [eL_AC, eR_AC]
    rcases okN_AC hV h6 hk with q | ⟨q, q2⟩
    · rw [if_pos q, if_neg (by omega), if_pos (by omega)]
      exact ⟨rfl, h1, h8⟩
    · have q3 := okN_lt hV q
      rw [if_neg q2, if_neg (by omega), if_neg (by omega), if_neg (by omega)]
      exact v4 k q
theorem okF_AF {c f : Int} (hn : 0 ≤ nF e) (h : okF (eAF e nm kd mk) c f) : (c = nC e ∧ f = nF e) ∨ (okF e c f ∧ ¬ (c = nC e ∧ f = nF e)) := by
  obtain ⟨h1, h2, h3⟩ := h
  have h1 : okC e c := h1
  rw [eF_AF] at h3
  by_cases q : c = nC e
  · rw [if_pos q] at h3
    by_cases q2 : f = nF e
    · exact Or.inl ⟨q, q2⟩
    · refine Or.inr ⟨⟨h1, h2, ?_⟩, fun r => q2 r.2⟩
      rw [q]
      show f < nF e
      omega
  · rw [if_neg q] at h3
    exact Or.inr ⟨⟨h1, h2, h3⟩, fun r => q r.1⟩
theorem okN_AF {k : Int} (hV : PV e) (hc : 1 ≤ eC e) (hf : nF e < 4) (h : okN (eAF e nm kd mk) k) : k = 6 + nC e * 4 + nF e ∨ (okN e k ∧ ¬ k = 6 + nC e * 4 + nF e) := by
  have hn : iv 0 4 (nF e) := (hV.2.1 (nC e) ⟨by unfold nC; omega, by unfold nC; omega⟩).1
  have hC : 0 ≤ nC e := by unfold nC; omega
  rcases h with h | ⟨c, f, h, h5⟩
  · have h : okC e k := h
    exact Or.inr ⟨Or.inl h, by have := h.2; have := hV.1; omega⟩
  · rcases okF_AF hn.1 h with ⟨q1, q2⟩ | ⟨q, q2⟩
    · rw [q1, q2] at h5
      exact Or.inl h5
    · refine Or.inr ⟨Or.inr ⟨c, f, q, h5⟩, fun r => q2 ?_⟩
      have := q.2.1
      have := q.2.2
      have := (hV.2.1 c q.1).1
      omega
theorem PV_AF (hV : PV e) (hc : 1 ≤ eC e) (hf : nF e < 4) (h1 : 1 ≤ nm.length) (h8 : nm.length ≤ 8) (hk : iv 0 3 kd) (hm : iv 0 1 mk) (hi : kd = 3 → mk = 1 → eI e (nC e) = -1) : PV (eAF e nm kd mk) := by
  obtain ⟨v1, v2, v3, v4⟩ := id hV
  have okn : okC e (nC e) := ⟨by unfold nC; omega, by unfold nC; omega⟩
  have hn : iv 0 4 (nF e) := (v2 (nC e) okn).1
  refine ⟨v1, fun c hc => ?_, fun c f hf => ?_, fun k hk => ?_⟩
  · have hc : okC e c := hc
    have v := v2 c hc
    rw [eF_AF, eI_AF]
    by_cases q : c = nC e
    · rw [q] at v ⊢
      rw [if_pos rfl]
      have v : iv 0 4 (nF e) ∧ iv (-1) 3 (eI e (nC e)) ∧ eI e (nC e) < nF e ∧ ∀ f, 0 ≤ f → f < nF e → (eI e (nC e) = f ↔ (eD e (nC e) f = 3 ∧ eM e (nC e) f = 1)) := v
      obtain ⟨a1, a2, a3, a4⟩ := v
      by_cases r : kd = 3 ∧ mk = 1
      · rw [if_pos ⟨rfl, r⟩]
        have i1 := hi r.1 r.2
        refine ⟨⟨by omega, by omega⟩, ⟨by omega, by omega⟩, by omega, fun f f1 f2 => ?_⟩
        rw [eD_AF, eM_AF]
        by_cases z : f = nF e
        · rw [if_pos ⟨rfl, z⟩, if_pos ⟨rfl, z⟩]
          exact ⟨fun _ => r, fun _ => z.symm⟩
        · rw [if_neg (fun y => z y.2), if_neg (fun y => z y.2), ← a4 f f1 (by omega)]
          exact ⟨fun y => absurd y.symm z, fun y => by omega⟩
      · rw [if_neg (fun y => r y.2)]
        refine ⟨⟨by omega, by omega⟩, a2, by omega, fun f f1 f2 => ?_⟩
        rw [eD_AF, eM_AF]
        by_cases z : f = nF e
        · rw [if_pos ⟨rfl, z⟩, if_pos ⟨rfl, z⟩]
          exact ⟨fun y => by omega, fun y => absurd y r⟩
        · rw [if_neg (fun y => z y.2), if_neg (fun y => z y.2)]
          exact a4 f f1 (by omega)
    · rw [if_neg q, if_neg (fun y => q y.1)]
      refine ⟨v.1, v.2.1, v.2.2.1, fun f f1 f2 => ?_⟩
      rw [eD_AF, eM_AF, if_neg (fun y => q y.1), if_neg (fun y => q y.1)]
      exact v.2.2.2 f f1 f2
  · rw [eD_AF, eM_AF]
    rcases okF_AF hn.1 hf with q | ⟨q, q2⟩
    · rw [if_pos q, if_pos q]
      exact ⟨hk, hm⟩
    · rw [if_neg q2, if_neg q2]
      exact v3 c f q
  · rw [eL_AF, eR_AF]
    have hC : iv 0 5 (nC e) := by unfold nC; exact ⟨by omega, by omega⟩
    rcases okN_AF hV hc hf hk with q | ⟨q, q2⟩
    · rw [if_pos q, if_neg (by omega), if_pos (by omega)]
      exact ⟨rfl, h1, h8⟩
    · have q3 := okN_lt hV q
      rw [if_neg q2, if_neg (by omega), if_neg (by omega), if_neg (by omega)]
      exact v4 k q
theorem qK_iv (u : Int) : iv (-1) 3 (qK u) := by
  unfold qK
  split
  · exact ⟨by decide, by decide⟩
  · split
    · exact ⟨by decide, by decide⟩
    · split
      · exact ⟨by decide, by decide⟩
      · split <;> exact ⟨by decide, by decide⟩
theorem qM_iv (T : Int → Int) (e : Env) (q : Int) : iv 0 1 (qM T e q) := by
  unfold qM
  split <;> exact ⟨by decide, by decide⟩
end EG

