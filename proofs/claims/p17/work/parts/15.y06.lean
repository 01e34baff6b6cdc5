/-! THE WRITER: elements -/
def Mo (e : Env) (s s' : Ws) : Prop := (0 ≤ s.2.2.2.1 → 0 ≤ s'.2.2.2.1) ∧ ∀ w, 0 ≤ s.2.2.2.1 → 0 < s.2.1 w → 0 < s'.2.1 w ∧ (¬ eO e = 3 → s'.2.2.1 w = s.2.2.1 w)
theorem Mo.rf {e : Env} {s : Ws} : Mo e s s := ⟨fun h => h, fun w _ h => ⟨h, fun _ => rfl⟩⟩
theorem Mo.tr {e : Env} {s s1 s2 : Ws} (h : Mo e s s1) (k : Mo e s1 s2) : Mo e s s2 := ⟨fun q => k.1 (h.1 q), fun w q1 q2 => by
  obtain ⟨a1, a2⟩ := h.2 w q1 q2
  obtain ⟨b1, b2⟩ := k.2 w (h.1 q1) a1
  exact ⟨b1, fun q => (b2 q).trans (a2 q)⟩⟩
theorem Mo.pt {e : Env} {s s1 : Ws} {l : List Int} (h : Mo e s s1) : Mo e s (pt s1 l) := h
def MoR (e : Env) (R : Rec) : Prop := ∀ o p k r s, Mo e s (R o p k r s)
theorem its_mo {e : Env} {R : Rec} (h : MoR e R) {o f : Int} {p : Pth} : ∀ (n : Nat) (i : Int) (s : Ws), Mo e s (its e R o f p n i s)
  | 0, i, s => Mo.rf
  | n + 1, i, s => Mo.tr (h _ _ _ _ s) (its_mo h n (i + 1) _)
theorem con_mo {e : Env} {R : Rec} (h : MoR e R) {o f : Int} {p : Pth} {s : Ws} : Mo e s (con e R o f p s) := by
  unfold con
  split
  · split
    · exact Mo.rf
    · split <;> exact Mo.rf
  · split
    · split
      · exact Mo.rf
      · exact h _ _ _ _ s
    · split
      · exact its_mo h _ _ s
      · split
        · exact Mo.rf
        · exact its_mo h _ _ (pt s _)
theorem cns_mo {e : Env} {R : Rec} (h : MoR e R) {o : Int} {p : Pth} : ∀ (n : Nat) (f : Int) (s : Ws), Mo e s (cns e R o p n f s)
  | 0, f, s => Mo.rf
  | n + 1, f, s => Mo.tr (con_mo h) (cns_mo h n (f + 1) _)
theorem bgn_mo {e : Env} {s : Ws} {o : Int} {p : Pth} (h : eO e = 3 ∨ ¬ 0 < s.2.1 o) : Mo e s (bgn s o p) := by
  refine ⟨fun q => by show 0 ≤ s.2.2.2.1 + 1; omega, fun w q1 q2 => ?_⟩
  show 0 < (if w = o then s.2.2.2.1 + 1 else s.2.1 w) ∧ (¬ eO e = 3 → (if w = o then p else s.2.2.1 w) = s.2.2.1 w)
  by_cases q : w = o
  · subst q
    rw [if_pos rfl]
    exact ⟨by omega, fun q3 => absurd q2 (h.resolve_left q3)⟩
  · rw [if_neg q, if_neg q]
    exact ⟨q2, fun _ => rfl⟩
theorem El_mo {e : Env} : ∀ n : Nat, MoR e (El e n)
  | 0 => fun o p k r s => by
    unfold El
    split
    · exact Mo.rf
    · split
      · exact Mo.rf
      · exact Mo.rf
  | n + 1 => fun o p k r s => by
    unfold El
    split
    · exact Mo.rf
    · split
      · exact Mo.rf
      · rename_i h
        have hb : Mo e s (bgn s o (p ++ [(o, k, r)])) := bgn_mo (by
          by_cases q : eO e = 3
          · exact Or.inl q
          · exact Or.inr (fun q2 => h ⟨q, q2⟩))
        split
        · exact hb.tr (cns_mo (El_mo n) _ _ (pt (bgn s o (p ++ [(o, k, r)])) _))
        · exact hb
/-- all but the writer's cells is the same -/
def Oe (S S' : St) : Prop := (∀ a, a ≠ 22 → a < 210 → S'.1 a = S.1 a ∧ S'.2 a = S.2 a) ∧ S'.1 210 4 = S.1 210 4
theorem Oe.rf {S : St} : Oe S S := ⟨fun _ _ _ => ⟨rfl, rfl⟩, rfl⟩
theorem Oe.tr {S S1 S2 : St} (h : Oe S S1) (k : Oe S1 S2) : Oe S S2 := ⟨fun a h1 h2 => ⟨(k.1 a h1 h2).1.trans (h.1 a h1 h2).1, (k.1 a h1 h2).2.trans (h.1 a h1 h2).2⟩, k.2.trans h.2⟩
theorem Ow.oe {S S' : St} (h : Ow S S') : Oe S S' := ⟨fun a h1 h2 => h a h1 (by omega) (by omega), congrFun (h 210 (by decide) (by decide) (by decide)).1 4⟩
theorem cE.oe {S S' : St} {e : Env} (h : cE S e) (q : Oe S S') : cE S' e := by
  have k := q.1
  exact h.mv (congrFun (k 42 (by decide) (by decide)).1 3) (congrFun (k 24 (by decide) (by decide)).1 8) (k 43 (by decide) (by decide)).2 (k 44 (by decide) (by decide)).2 (k 45 (by decide) (by decide)).2 (k 25 (by decide) (by decide)).2 (k 26 (by decide) (by decide)).2 (k 27 (by decide) (by decide)).2 (k 28 (by decide) (by decide)).2 (k 29 (by decide) (by decide)).2 (k 30 (by decide) (by decide)).2
abbrev EE : Type := Int → Int → Int → Int → Int → St → (Int → St → Prop) → Prop
def RecOk (e : Env) (n : Nat) (m d : Int) (E : EE) : Prop := (∀ (S : St) (o w f i : Int) (K : Int → St → Prop), o < 0 → K 0 S → E o w f i d S K) ∧ ∀ (S : St) (s : Ws) (o w f i : Int) (p : Pth) (K : Int → St → Prop), cE S e → WrR S e s → S.1 210 4 = m → okO e o → Owr e w f i o → (0 ≤ w → 0 < s.2.1 w) → (¬ eO e = 3 → p = ppp e s w f ∧ (noc p : Int) = d) → iv 0 7 i → (eO e = 3 ∨ s.2.1 o ≤ 0 ∨ 0 ≤ w) → (∀ S', Oe S S' → WrR S' e (El e n o p (nmo e w f o) (rko e w f i) s) → K 0 S') → E o w f i d S K
theorem noc_app {p : Pth} {t : Int × Int × Int} : noc (p ++ [t]) = noc p + (if t.1 < 30 then 1 else 0) := by
  unfold noc
  rw [List.filter_append, List.length_append]
  by_cases q : t.1 < 30
  · simp [q]
  · simp [q]
theorem its_succ {e : Env} {R : Rec} {o f : Int} {p : Pth} {n i : Int} {s : Ws} (h : i < n) : its e R o f p (n - i).toNat i s = its e R o f p (n - (i + 1)).toNat (i + 1) (R (eP e o f i) p (eK e (eP e o f i)) (rnk e o f i) s) := by
  rw [show (n - i).toNat = (n - (i + 1)).toNat + 1 by omega]
  rfl
theorem its_end {e : Env} {R : Rec} {o f : Int} {p : Pth} {n i : Int} {s : Ws} (h : n ≤ i) : its e R o f p (n - i).toNat i s = s := by
  rw [show (n - i).toNat = 0 by omega]
  rfl
theorem cns_succ {e : Env} {R : Rec} {o : Int} {p : Pth} {n f : Int} {s : Ws} (h : f < n) : cns e R o p (n - f).toNat f s = cns e R o p (n - (f + 1)).toNat (f + 1) (con e R o f p s) := by
  rw [show (n - f).toNat = (n - (f + 1)).toNat + 1 by omega]
  rfl
theorem cns_end {e : Env} {R : Rec} {o : Int} {p : Pth} {n f : Int} {s : Ws} (h : n ≤ f) : cns e R o p (n - f).toNat f s = s := by
  rw [show (n - f).toNat = 0 by omega]
  rfl
section WE
variable {S : St} {K : Int → St → Prop} {e : Env} {s : Ws} {p q : Pth} {o f d m : Int} {n : Nat} {E : EE}
/-- within the element of an object -/
def Inn (e : Env) (s : Ws) (o d : Int) (p : Pth) : Prop := 0 < s.2.1 o ∧ (¬ eO e = 3 → s.2.2.1 o = p ∧ (noc p : Int) = d + 1)
theorem Inn.mo {s' : Ws} (h : Inn e s o d p) (k0 : 0 ≤ s.2.2.2.1) (k : Mo e s s') : Inn e s' o d p := ⟨(k.2 o k0 h.1).1, fun q => ⟨((k.2 o k0 h.1).2 q).trans (h.2 q).1, (h.2 q).2⟩⟩
theorem o_items (hV : EV e) (hrec : RecOk e n m (d + 1) E) (hd : iv 0 20 d) (hE : cE S e) (hR : WrR S e s) (hm : S.1 210 4 = m) (ho : okO e o) (hf : okF e (eK e o) f) (h3 : eD e (eK e o) f = 3) (hI : Inn e s o d p) (hq : q = if eM e (eK e o) f = 1 then p else lst e o f p) (hK : ∀ S', Oe S S' → WrR S' e (its e (El e n) o f q (eV e o f).toNat 0 s) → K 0 S') : wX8_items E o f d S K := by
  have hob := okO_b hV ho
  have hfb := okF_b hV hf
  have hv := (hV.2.2.2.2.2 _ _ ho hf).2.2.2 h3
  unfold wX8_items
  intro _ _ _
  unfold wX8_items_3
  refine ⟨fun l1 l2 l3 l4 T => l1 = o ∧ l2 = f ∧ l3 = d ∧ 0 ≤ l4 ∧ l4 ≤ eV e o f ∧ Oe S T ∧ ∃ s1, Mo e s s1 ∧ WrR T e s1 ∧ its e (El e n) o f q (eV e o f - l4).toNat l4 s1 = its e (El e n) o f q (eV e o f).toNat 0 s, fun l1 l2 l3 l4 T => (9 - l4).toNat, ⟨rfl, rfl, rfl, by decide, hv.1.1, Oe.rf, s, Mo.rf, hR, by simp⟩, fun l1 l2 l3 l4 T hI2 => ?_⟩
  obtain ⟨rfl, rfl, rfl, i1, i2, fT, s1, mo, hR1, hc⟩ := hI2
  have hET := hE.oe fT
  have fin : eV e l1 l2 ≤ l4 → K 0 T := fun h => by
    rw [its_end h] at hc
    rw [← hc] at hK
    exact hK T fT hR1
  unfold wX8_items_3'
  refine ⟨⟨by omega, by omega⟩, fun h => fin (by omega), fun h => ⟨⟨by omega, by omega⟩, ⟨by omega, by omega⟩, r_head hET hV ho hf ⟨⟨by omega, by omega⟩, fun h2 => fin h2, fun h2 => ?_⟩⟩⟩
  have hx := hv.2 l4 i1 (by omega)
  have hxb := okO_b hV hx
  have hI1 := hI.mo hR.2.2.2.2.1.1 mo
  refine r_cell hET hV ho hf (Or.inr h3) i1 (by omega) ⟨⟨by omega, by omega⟩, ⟨by omega, by omega⟩, ?_⟩
  refine hrec.2 T s1 _ l1 l2 l4 q _ hET hR1 (fT.2.trans hm) hx (Or.inr ⟨ho, hf, Or.inr ⟨h3, i1, by omega, rfl⟩⟩) (fun _ => hI1.1) (fun q3 => ?_) ⟨by omega, by omega⟩ (Or.inr (Or.inr ho.1)) (fun S' g1 g2 => ⟨⟨rfl, rfl, rfl, by omega, by omega, fT.tr g1, _, mo.tr (El_mo n _ _ _ _ s1), g2, ?_⟩, by dsimp only; omega⟩)
  · obtain ⟨a1, a2⟩ := hI1.2 q3
    unfold ppp
    rw [if_neg (show ¬ l1 < 0 by omega), a1, hq]
    by_cases q4 : eM e (eK e l1) l2 = 1
    · rw [if_pos q4, if_neg (fun r => r.2 q4)]
      exact ⟨rfl, a2⟩
    · rw [if_neg q4, if_pos ⟨h3, q4⟩]
      refine ⟨rfl, ?_⟩
      unfold lst
      rw [noc_app, if_neg (show ¬ (30 + l1 * 4 + l2 : Int) < 30 by omega)]
      omega
  · rw [its_succ (by omega)] at hc
    rw [← hc]
    unfold nmo rko
    rw [if_neg (fun r => by have := r.2; omega), if_pos ⟨ho.1, h3⟩]
theorem o_content (hV : EV e) (hrec : RecOk e n m (d + 1) E) (hd : iv 0 20 d) (hE : cE S e) (hR : WrR S e s) (hm : S.1 210 4 = m) (ho : okO e o) (h0 : iv 0 3 f) (hI : Inn e s o d p) (hK : ∀ S', Oe S S' → WrR S' e (if f < eF e (eK e o) then con e (El e n) o f p s else s) → K 0 S') : wX8_content E o f d S K := by
  have hob := okO_b hV ho
  have hkc := hV.2.2.1 o ho
  have hkb := okC_b hV hkc
  unfold wX8_content
  intro _ _ _
  refine r_cls hE hV ho ⟨⟨by omega, by omega⟩, ?_⟩
  by_cases hf : f < eF e (eK e o)
  · have hf : okF e (eK e o) f := ⟨hkc, h0.1, hf⟩
    rw [if_pos hf.2.2] at hK
    have hkd := hV.2.2.2.2.1 _ _ hf
    have hv := hV.2.2.2.2.2 _ _ ho hf
    have hn := nmF_ok hf
    have hnb := okN_b hV hn
    have h7 := (hE.2.2.2.2.2.2.1 _ f hf).2.2
    refine r_shape hE hV hf ⟨⟨by omega, by omega⟩, fun h => absurd h (by omega), fun _ => r_isAtt hE hV hf ?_⟩
    unfold con at hK
    by_cases q1 : eD e (eK e o) f ≤ 1 ∧ eM e (eK e o) f = 1
    · rw [if_pos q1.1, if_pos q1.2] at hK
      rw [if_pos q1]
      exact ⟨⟨by decide, by decide⟩, fun h => absurd h (by decide), fun _ => hK S Oe.rf hR⟩
    · rw [if_neg q1]
      refine ⟨⟨by decide, by decide⟩, fun _ => ⟨fun q2 => ?_, fun q2 => ?_⟩, fun h => absurd rfl h⟩
      · -- no reference
        refine r_impl hE hV hkc (fun g => ⟨g, fun q3 => ?_, fun q3 => ?_⟩)
        · -- an element of the field
          refine r_fname ?_
          refine t_put hR.1 ⟨by decide, by decide⟩ (fun r S1 f1 o1 => ⟨⟨by omega, by omega⟩, ?_⟩)
          refine o_spellTo (hE.of f1) o1 hn hnb (fun S2 f2 o2 => ?_)
          have f12 := f1.tr f2
          rw [List.append_assoc] at o2
          have hE2 := hE.of f12
          -- the end tag
          have fin : ∀ (T : St) (s1 : Ws), Oe S T → WrR T e s1 → (∀ S', Oe S S' → WrR S' e (pt s1 (eTg e (nmF e o f))) → K 0 S') → wX8_content_180 E (6 + eK e o * 4 + f) T K := fun T s1 fT hT hk => by
            unfold wX8_content_180
            exact ⟨⟨by omega, by omega⟩, o_endTag (hE.oe fT) hT.1 hn hnb (fun S' g1 g2 => hk S' (fT.tr g1.ow.oe) (hT.of g1.ow g2))⟩
          have body : ¬ (eD e (eK e o) f = 1 ∧ eV e o f = 0) → ¬ (eD e (eK e o) f = 3 ∧ eV e o f = 0) → wX8_content_147 E o f d (eD e (eK e o) f + 1) (6 + eK e o * 4 + f) S2 K := fun b1 b2 => by
            unfold wX8_content_147
            refine t_put o2 ⟨by decide, by decide⟩ (fun r S3 f3 o3 => ⟨⟨by omega, by omega⟩, fun q4 => ⟨⟨by omega, by omega⟩, ⟨by omega, by omega⟩, ?_⟩, fun q4 => ⟨⟨by omega, by omega⟩, ⟨by omega, by omega⟩, ⟨by omega, by omega⟩, ?_⟩⟩)
            · have hd1 : eD e (eK e o) f ≤ 1 := by omega
              rw [if_pos hd1, if_neg (fun r => q1 ⟨hd1, r⟩), if_neg b1] at hK
              refine o_single ((hE2).of f3) hV o3 ho hf hd1 ⟨by decide, by decide⟩ (fun S4 f4 o4 => ?_)
              rw [List.append_assoc, List.append_assoc] at o4
              refine fin S4 _ ((f12.tr f3).tr f4).ow.oe (hR.of ((f12.tr f3).tr f4).ow o4) (fun S' g1 g2 => hK S' g1 ?_)
              rw [pt_pt] at g2
              simp only [List.append_assoc] at g2 ⊢
              exact g2
            · have hd3 : eD e (eK e o) f = 3 := by omega
              have hm1 : ¬ eM e (eK e o) f = 1 := fun r => q3 (h7.mpr ⟨hd3, r⟩)
              rw [if_neg (show ¬ eD e (eK e o) f ≤ 1 by omega), if_neg (show ¬ eD e (eK e o) f = 2 by omega), if_neg hm1, if_neg (fun r => b2 ⟨hd3, r⟩)] at hK
              rw [List.append_assoc] at o3
              have hR3 := hR.of (f12.tr f3).ow o3
              refine o_items (s := pt s ([60] ++ eL e (nmF e o f) ++ [62])) (q := lst e o f p) hV hrec hd (hE2.of f3) ?_ ((f12.tr f3).ow.oe.2.trans hm) ho hf hd3 hI (by rw [if_neg hm1]) (fun S4 f4 g4 => ?_)
              · simp only [List.append_assoc] at hR3 ⊢
                exact hR3
              · exact fin S4 _ ((f12.tr f3).ow.oe.tr f4) g4 hK
          refine ⟨fun q4 => body (by omega) (by omega), fun q4 => r_head hE2 hV ho hf ⟨hv.1, fun q5 => body (fun r => q5 r.2) (fun r => q5 r.2), fun q5 => ?_⟩⟩
          have q6 := Classical.not_not.mp q5
          refine t_spell o2 str13 (fun S3 f3 o3 => ?_)
          rw [List.append_assoc] at o3
          have hR3 := hR.of (f12.tr f3).ow o3
          refine hK S3 (f12.tr f3).ow.oe ?_
          by_cases q7 : eD e (eK e o) f ≤ 1
          · rw [if_pos q7, if_neg (fun r => q1 ⟨q7, r⟩), if_pos ⟨by omega, q6⟩]
            simp only [List.append_assoc] at hR3 ⊢
            exact hR3
          · rw [if_neg q7, if_neg (show ¬ eD e (eK e o) f = 2 by omega), if_neg (fun r => q3 (h7.mpr ⟨by omega, r⟩)), if_pos q6]
            simp only [List.append_assoc] at hR3 ⊢
            exact hR3
        · -- an implicit list
          have q4 := h7.mp (Classical.not_not.mp q3)
          rw [if_neg (show ¬ eD e (eK e o) f ≤ 1 by omega), if_neg (show ¬ eD e (eK e o) f = 2 by omega), if_pos q4.2] at hK
          exact o_items hV hrec hd hE hR hm ho hf q4.1 hI (by rw [if_pos q4.2]) hK
      · -- a reference
        have hd2 : eD e (eK e o) f = 2 := by omega
        rw [if_neg (show ¬ eD e (eK e o) f ≤ 1 by omega), if_pos hd2] at hK
        refine r_head hE hV ho hf ⟨hv.1, ⟨by omega, by omega⟩, ?_⟩
        by_cases q3 : eV e o f = -2
        · rw [if_pos q3] at hK
          exact hrec.1 S _ o f 0 _ (by omega) (hK S Oe.rf hR)
        · rw [if_neg q3] at hK
          have hx := (hv.2.2.1 hd2).resolve_left q3
          refine hrec.2 S s _ o f 0 p _ hE hR hm hx (Or.inr ⟨ho, hf, Or.inl hd2⟩) (fun _ => hI.1) (fun q4 => ?_) ⟨by decide, by decide⟩ (Or.inr (Or.inr ho.1)) (fun S' g1 g2 => hK S' g1 ?_)
          · obtain ⟨a1, a2⟩ := hI.2 q4
            unfold ppp
            rw [if_neg (show ¬ o < 0 by omega), if_neg (fun r => by have := r.1; omega), a1]
            exact ⟨rfl, a2⟩
          · unfold nmo rko at g2
            rw [if_pos ⟨ho.1, hd2⟩, if_neg (fun r => by have := r.2; omega)] at g2
            exact g2
  · rw [if_neg hf] at hK
    exact r_shape0 hE hV hkc h0.1 (by omega) ⟨⟨by decide, by decide⟩, fun _ => hK S Oe.rf hR, fun h => absurd rfl h⟩
theorem el_neg (ho : o < 0) {w f i : Int} (hK : K 0 S) : wX8_element E o w f i d S K := by
  unfold wX8_element
  intro _ _ _ _ _ _
  refine ⟨fun _ => hK, fun _ hb => ?_⟩
  exact ⟨⟨by omega, by omega⟩, fun _ => hK, fun _ => r_has0 ho ⟨⟨by decide, by decide⟩, fun h => absurd rfl h, fun _ => hK⟩⟩
theorem sTg_pos {k x : Int} : 1 ≤ (sTg e o k x).length := by
  unfold sTg
  simp only [List.append_assoc, List.length_append, List.length_cons]
  omega
/-- an object is begun -/
theorem WrR_bgn {S S5 S9 S11 S14 S17 S' : St} {w f i : Int} {l : List Int} (hV : EV e) (hR : WrR S e s) (ho : okO e o) (hW : Owr e w f i o) (hwb : 0 ≤ w → 0 < s.2.1 w) (hp : ¬ eO e = 3 → p = ppp e s w f ∧ (noc p : Int) = d) (hd : d < 20) (hnb : ¬ eO e = 3 → ¬ 0 < s.2.1 o) (h5 : S5 = pI S 210 11 (s.2.2.2.1 + 1)) (h9 : S9 = pA S5 211 o (s.2.2.2.1 + 1)) (h11 : S11 = pA S9 212 o w) (h14 : S14 = pA S11 213 o f) (h17 : S17 = pA S14 214 o i) (hF : Of S17 S') (hO : oC S' 22 (s.1 ++ l)) (hl : 1 ≤ l.length) : WrR S' e (pt (bgn s o (p ++ [(o, nmo e w f o, rko e w f i)])) l) := by
  obtain ⟨r1, r2, r3, r4, r5, r6, r7⟩ := hR
  have hob := okO_b hV ho
  have e210 : ∀ j, j ≠ 11 → S'.1 210 j = S.1 210 j := fun j hj => by
    rw [(hF 210 (by decide)).1, h17, h14, h11, h9, h5]
    show (if 210 = 210 ∧ j = 11 then _ else S.1 210 j) = _
    rw [if_neg (fun q => hj q.2)]
  have e11 : S'.1 210 11 = s.2.2.2.1 + 1 := by
    rw [(hF 210 (by decide)).1, h17, h14, h11, h9, h5]
    show (if 210 = 210 ∧ 11 = 11 then s.2.2.2.1 + 1 else S.1 210 11) = _
    rw [if_pos ⟨rfl, rfl⟩]
  have e211 : ∀ x, S'.2 211 x = if x = o then s.2.2.2.1 + 1 else S.2 211 x := fun x => by
    rw [(hF 211 (by decide)).2, h17, h14, h11, h9, h5]
    show (if 211 = 211 ∧ x = o then _ else S.2 211 x) = _
    by_cases q : x = o
    · rw [if_pos ⟨rfl, q⟩, if_pos q]
    · rw [if_neg (fun r => q r.2), if_neg q]
  have e212 : ∀ x, S'.2 212 x = if x = o then w else S.2 212 x := fun x => by
    rw [(hF 212 (by decide)).2, h17, h14, h11, h9, h5]
    show (if 212 = 212 ∧ x = o then _ else S.2 212 x) = _
    by_cases q : x = o
    · rw [if_pos ⟨rfl, q⟩, if_pos q]
    · rw [if_neg (fun r => q r.2), if_neg q]
  have e213 : ∀ x, S'.2 213 x = if x = o then f else S.2 213 x := fun x => by
    rw [(hF 213 (by decide)).2, h17, h14, h11, h9, h5]
    show (if 213 = 213 ∧ x = o then _ else S.2 213 x) = _
    by_cases q : x = o
    · rw [if_pos ⟨rfl, q⟩, if_pos q]
    · rw [if_neg (fun r => q r.2), if_neg q]
  have e214 : ∀ x, S'.2 214 x = if x = o then i else S.2 214 x := fun x => by
    rw [(hF 214 (by decide)).2, h17, h14, h11, h9, h5]
    show (if 214 = 214 ∧ x = o then _ else S.2 214 x) = _
    by_cases q : x = o
    · rw [if_pos ⟨rfl, q⟩, if_pos q]
    · rw [if_neg (fun r => q r.2), if_neg q]
  refine ⟨hO, (e210 3 (by decide)).trans r2, (e210 12 (by decide)).trans r3, e11, ⟨?_, ?_⟩, fun x hx => ?_, fun hm x hx hb => ?_⟩
  · show 0 ≤ s.2.2.2.1 + 1
    omega
  · show s.2.2.2.1 + 1 ≤ ((s.1 ++ l).length : Int)
    rw [List.length_append]
    omega
  · show S'.2 211 x = (if x = o then s.2.2.2.1 + 1 else s.2.1 x) ∧ 0 ≤ (if x = o then s.2.2.2.1 + 1 else s.2.1 x) ∧ (if x = o then s.2.2.2.1 + 1 else s.2.1 x) ≤ s.2.2.2.1 + 1
    have q6 := r6 x hx
    rw [e211 x]
    by_cases q : x = o
    · rw [if_pos q]
      rw [if_pos q]
      exact ⟨rfl, by omega, by omega⟩
    · rw [if_neg q]
      rw [if_neg q]
      exact ⟨q6.1, by omega, by omega⟩
  · have hno := hnb hm
    obtain ⟨hp1, hp2⟩ := hp hm
    have vs : ∀ t : Int × Int × Int, VS e S t ∧ (t.1 < 30 → 0 < s.2.1 t.1) → VS e S' t ∧ (t.1 < 30 → 0 < (if t.1 = o then s.2.2.2.1 + 1 else s.2.1 t.1)) := fun t ht => by
      refine ⟨?_, fun q => ?_⟩
      · rcases ht.1 with h | h
        · have hne : t.1 ≠ o := fun q => hno (q ▸ ht.2 (by have := okO_b hV h.1; omega))
          refine Or.inl ?_
          rw [e212, e213, e214, if_neg hne, if_neg hne, if_neg hne]
          exact h
        · exact Or.inr h
      · split
        · omega
        · exact ht.2 q
    have pp : ∀ y g : Int, y ≠ o → ppp e (pt (bgn s o (p ++ [(o, nmo e w f o, rko e w f i)])) l) y g = ppp e s y g := fun y g hy => by
      unfold ppp
      show (if y < 0 then [] else if _ then lst e y g (if y = o then _ else s.2.2.1 y) else (if y = o then _ else s.2.2.1 y)) = _
      rw [if_neg hy]
    have hwo : w ≠ o := fun q => hno (q ▸ hwb (q ▸ ho.1))
    by_cases q : x = o
    · subst q
      rw [e212, e213, e214, if_pos rfl, if_pos rfl, if_pos rfl]
      have hpa : (pt (bgn s x (p ++ [(x, nmo e w f x, rko e w f i)])) l).2.2.1 x = p ++ [(x, nmo e w f x, rko e w f i)] := by
        show (if x = x then _ else _) = _
        rw [if_pos rfl]
      refine ⟨⟨hW, fun h => ?_, ?_, ?_⟩, fun t ht => ?_⟩
      · show 0 < (if w = x then _ else s.2.1 w)
        rw [if_neg hwo]
        exact hwb h
      · rw [hpa, pp w f hwo, hp1]
      · rw [hpa, noc_app, if_pos (show x < 30 by omega)]
        omega
      · rw [hpa] at ht
        rcases List.mem_append.mp ht with h | h
        · rw [hp1] at h
          unfold ppp at h
          rcases hW with ⟨q1, q2⟩ | ⟨q1, q2, q3⟩
          · rw [if_pos (by omega)] at h
            cases h
          · rw [if_neg (by have := q1.1; omega)] at h
            have hwp := (r7 hm w q1 (hwb q1.1)).2
            split at h
            · unfold lst at h
              rcases List.mem_append.mp h with h | h
              · exact vs t (hwp t h)
              · have ht1 : t = (30 + w * 4 + f, nmF e w f, 1) := by simpa using h
                refine ⟨Or.inr ⟨w, f, q1, q2, ht1⟩, fun q4 => ?_⟩
                rw [ht1] at q4
                have g1 := okO_b hV q1
                have g2 := okF_b hV q2
                have g3 : (30 + w * 4 + f : Int) < 30 := q4
                omega
            · exact vs t (hwp t h)
        · have ht1 : t = (x, nmo e w f x, rko e w f i) := by simpa using h
          subst ht1
          refine ⟨Or.inl ⟨ho, ?_, ?_, ?_⟩, fun _ => ?_⟩
          · show Owr e (S'.2 212 x) (S'.2 213 x) (S'.2 214 x) x
            rw [e212, e213, e214, if_pos rfl, if_pos rfl, if_pos rfl]
            exact hW
          · show _ = nmo e (S'.2 212 x) (S'.2 213 x) x
            rw [e212, e213, if_pos rfl, if_pos rfl]
          · show _ = rko e (S'.2 212 x) (S'.2 213 x) (S'.2 214 x)
            rw [e212, e213, e214, if_pos rfl, if_pos rfl, if_pos rfl]
          · show 0 < (if x = x then s.2.2.2.1 + 1 else s.2.1 x)
            rw [if_pos rfl]
            omega
    · have hb : 0 < s.2.1 x := by
        have h : 0 < (if x = o then s.2.2.2.1 + 1 else s.2.1 x) := hb
        rw [if_neg q] at h
        exact h
      obtain ⟨⟨a1, a2, a3, a4⟩, a5⟩ := r7 hm x hx hb
      rw [e212, e213, e214, if_neg q, if_neg q, if_neg q]
      have hpa : (pt (bgn s o (p ++ [(o, nmo e w f o, rko e w f i)])) l).2.2.1 x = s.2.2.1 x := by
        show (if x = o then _ else s.2.2.1 x) = _
        rw [if_neg q]
      have hwx : S.2 212 x ≠ o := fun r => hno (r ▸ a2 (r ▸ ho.1))
      refine ⟨⟨a1, fun h => ?_, ?_, ?_⟩, fun t ht => ?_⟩
      · show 0 < (if S.2 212 x = o then _ else s.2.1 (S.2 212 x))
        rw [if_neg hwx]
        exact a2 h
      · rw [hpa, pp _ _ hwx]
        exact a3
      · rw [hpa]
        exact a4
      · rw [hpa] at ht
        exact vs t (a5 t ht)
end WE

