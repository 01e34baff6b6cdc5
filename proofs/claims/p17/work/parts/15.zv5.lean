/-! WHAT ELEMENTS MEAN: the class: whether an element is sound -/
/-- the heap keeps its objects, their classes and lists; the roles stay -/
def AK (e : Env) (M M' : Mm) : Prop := M'.1.1 = M.1.1 ∧ M'.1.2.1 = M.1.2.1 ∧ (∀ o f, ¬ eD e (M.1.2.1 o) f ≤ 1 → M'.1.2.2.1 o f = M.1.2.2.1 o f) ∧ ∀ t, t ≠ 4 → M'.2 t = M.2 t
theorem AK.rf {e : Env} {M : Mm} : AK e M M := ⟨rfl, rfl, fun _ _ _ => rfl, fun _ _ => rfl⟩
theorem AK.tr {e : Env} {M M1 M2 : Mm} (h : AK e M M1) (g : AK e M1 M2) : AK e M M2 := ⟨g.1.trans h.1, g.2.1.trans h.2.1, fun o f q => (g.2.2.1 o f (by rw [h.2.1]; exact q)).trans (h.2.2.1 o f q), fun t q => (g.2.2.2 t q).trans (h.2.2.2 t q)⟩
section QS
variable {S S' : St} {K : Int → St → Prop} {T : Int → Int} {n x o f v c r p a b : Int} {X : Xs} {e : Env} {fb : Int → Int} {M M' : Mm} {h h' : Hs} {L : List Int}
theorem fil_keep (hk : eD e (h.2.1 o) f ≤ 1) (q : fil e h o f L = some h') : h'.1 = h.1 ∧ h'.2.1 = h.2.1 ∧ ∀ o' f', ¬ eD e (h.2.1 o') f' ≤ 1 → h'.2.2.1 o' f' = h.2.2.1 o' f' := by
  have ne : ∀ o' f', ¬ eD e (h.2.1 o') f' ≤ 1 → ¬ (o' = o ∧ f' = f) := fun o' f' w z => by
    rw [z.1, z.2] at w
    exact w hk
  unfold fil at q
  by_cases d : eD e (h.2.1 o) f = 0
  · rw [if_pos d] at q
    cases hv : nmV L with
    | none =>
      rw [hv] at q
      cases q
    | some y =>
      rw [hv] at q
      injection q with q
      rw [← q]
      exact ⟨rfl, rfl, fun o' f' w => if_neg (ne o' f' w)⟩
  · rw [if_neg d] at q
    by_cases d2 : L.length ≤ 20 ∧ (∀ u ∈ L, 32 ≤ u)
    · rw [if_pos d2] at q
      injection q with q
      rw [← q]
      exact ⟨rfl, rfl, fun o' f' w => if_neg (ne o' f' w)⟩
    · rw [if_neg d2] at q
      cases q
theorem isA_le (h1 : isA e c f = 1) : eD e c f ≤ 1 := by
  unfold isA at h1
  by_cases q : eD e c f ≤ 1 ∧ eM e c f = 1
  · exact q.1
  · rw [if_neg q] at h1
    omega
theorem atO_keep (hV : EV e) (hc : okC e (M.1.2.1 (M.2 1 x))) (q : atO e T X M x a = some M') : AK e M M' := by
  unfold atO at q
  by_cases c1 : kyA T X a = ywC
  · rw [if_pos c1] at q
    by_cases c2 : M.2 2 x = -1
    · rw [if_pos c2] at q
      cases q
    · rw [if_neg c2] at q
      injection q with q
      rw [← q]
      exact AK.rf
  · rw [if_neg c1] at q
    by_cases c2 : kyA T X a = ywI
    · rw [if_pos c2] at q
      by_cases c3 : idV (vlA X a) = 0 ∨ ¬ wId M X.1.length (idV (vlA X a)) = -1
      · rw [if_pos c3] at q
        cases q
      · rw [if_neg c3] at q
        injection q with q
        rw [← q]
        exact ⟨rfl, rfl, fun _ _ _ => rfl, fun t w => funext fun i => if_neg (fun z => w z.1)⟩
    · rw [if_neg c2] at q
      by_cases c3 : fdN e 1 (M.1.2.1 (M.2 1 x)) (kyA T X a) = -1
      · rw [if_pos c3] at q
        cases q
      · rw [if_neg c3] at q
        have hok := (fdN_ok (a := 1) hV hc (L := kyA T X a)).resolve_left c3
        cases hf : fil e M.1 (M.2 1 x) (fdN e 1 (M.1.2.1 (M.2 1 x)) (kyA T X a)) (vlA X a) with
        | none =>
          rw [hf] at q
          cases q
        | some h =>
          rw [hf] at q
          injection q with q
          rw [← q]
          obtain ⟨k1, k2, k3⟩ := fil_keep (isA_le hok.2.1) hf
          exact ⟨k1, k2, k3, fun _ _ => rfl⟩
theorem sgV_mem (hs : SV X) (a0 : 0 ≤ a) (bn : b ≤ X.2.2.length) : ∀ u ∈ sbT (sgV X) a b, isSn u := fun u hu => by
  obtain ⟨d, hd, hu⟩ := List.getElem_of_mem hu
  have hd' : d < (b - a).toNat := by rw [sbT_len] at hd; exact hd
  have := sbT_get (T := sgV X) hd'
  rw [List.getD_eq_getElem?_getD, List.getElem?_eq_getElem hd, Option.getD_some, hu] at this
  rw [this, sgV_at (by omega) (by omega)]
  exact hs _ (by omega)
theorem k_idS (hP : PMn T n X e fb M S) (x0 : 0 ≤ x) (x1 : x < X.1.length) (a0 : 0 ≤ a) (a1 : a < X.2.1.length) (hK : ∀ r S', OM T n X e fb S (if idV (vlA X a) = 0 ∨ ¬ wId M X.1.length (idV (vlA X a)) = -1 then none else some (zS M 4 x (idV (vlA X a)))) r S' → K r S') : wX3_isIdSound X.1.length x a S K := by
  have l := hP.1.len
  obtain ⟨⟨-, -, e18, e19⟩, -, -, -, k1, k2, k3⟩ := cm_a hP.1 a0 a1
  have v4 := hP.1.v4
  have hvl : sbT (sgV X) (gAt X a).2.2.1 (gAt X a).2.2.2 = vlA X a := rfl
  unfold wX3_isIdSound
  refine fun _ _ => q_valueFrom hP.1 a0 a1 (q_valueTo hP.1 a0 a1 ?_)
  rw [e18, e19]
  refine ⟨⟨by omega, by omega⟩, ⟨by omega, by omega⟩, b_idAt v4.1 v4.2 k1 k2 k3 (fun hid => ?_)⟩
  rw [hvl] at hid ⊢
  refine ⟨⟨by omega, by omega⟩, fun z => hK 0 S ⟨MF.rf, Or.inl ⟨rfl, if_pos (Or.inl z)⟩⟩, fun z => b_withId l.2.2.1 (fun y y0 y1 => (hP.2.2.2.2.2.1 y y0 y1).2.2.2.2) hid ⟨?_, fun z2 => ⟨x0, x1, ⟨by omega, by omega⟩, fun S16 e16 => ?_⟩, fun z2 => hK 0 S ⟨MF.rf, Or.inl ⟨rfl, if_pos (Or.inr z2)⟩⟩⟩⟩
  · unfold wId
    rw [if_neg z]
    have := fnd_or (P := fun k => decide (M.2 4 k = idV (vlA X a))) X.1.length 0
    exact ⟨by omega, by omega⟩
  · rw [e16]
    exact hK 1 _ ⟨MF.p235, Or.inr ⟨rfl, _, if_neg (fun w => w.elim z (fun w => w z2)), PM_4 hP⟩⟩
theorem k_atts (hP : PMn T n X e fb M S) (hV : EV e) (x0 : 0 ≤ x) (x1 : x < X.1.length) (ho : 0 ≤ M.2 1 x ∧ M.2 1 x < M.1.1) (hK : ∀ r S', OM T n X e fb S (atS e T X x (xAc X x).toNat M (xAf X x)) r S' → K r S') : wX3_areAttributesSound X.1.length x S K := by
  have h6 := hV.2.1
  have l := hP.1.len
  obtain ⟨⟨-, -, -, e11, e12⟩, -, -, -, -, -, g1, g2, g3⟩ := cm_e hP.1 x0 x1
  unfold wX3_areAttributesSound
  refine fun _ => q_firstAttribute hP.1 x0 x1 ?_
  rw [e11]
  refine ⟨fun l1 l2 l3 l4 S' => l1 = x ∧ l2 = xAf X x ∧ xAf X x ≤ l4 ∧ l4 ≤ xAf X x + xAc X x ∧ MF S S' ∧ ((l3 = 1 ∧ ∃ M', PMn T n X e fb M' S' ∧ AK e M M' ∧ atS e T X x (xAf X x + xAc X x - l4).toNat M' l4 = atS e T X x (xAc X x).toNat M (xAf X x)) ∨ (l3 = 0 ∧ atS e T X x (xAc X x).toNat M (xAf X x) = none)), fun l1 l2 l3 l4 S' => (xAf X x + xAc X x - l4).toNat, ⟨rfl, rfl, by omega, by omega, MF.rf, Or.inl ⟨rfl, M, hP, AK.rf, by rw [show xAf X x + xAc X x - xAf X x = xAc X x by omega]⟩⟩, ?_⟩
  rintro l1 l2 l3 l4 S' ⟨rfl, rfl, h0, h1, hm, h2⟩
  have hC' := hP.1.mf hm
  have e12' : S'.2 12 l1 = xAc X l1 := (cm_e hC' x0 x1).1.2.2.2.2
  have r3 : iv 0 1 l3 := by
    rcases h2 with ⟨w, -⟩ | ⟨w, -⟩
    · rw [w]
      exact ⟨by decide, by decide⟩
    · rw [w]
      exact ⟨by decide, by decide⟩
  refine ⟨⟨by omega, by omega⟩, q_attributeCount hC' x0 x1 ?_⟩
  rw [e12']
  refine ⟨⟨by omega, by omega⟩, ⟨by omega, by omega⟩, fun z => ⟨r3, ?_⟩, fun z => ⟨⟨by have := r3.1; omega, by have := r3.2; omega⟩, fun z2 => ⟨r3, ?_⟩, fun z2 => ?_⟩⟩
  · rcases h2 with ⟨rfl, M', p1, p2, p3⟩ | ⟨rfl, p1⟩
    · rw [show (xAf X l1 + xAc X l1 - l4).toNat = 0 by omega] at p3
      exact hK 1 S' ⟨hm, Or.inr ⟨rfl, M', p3.symm, p1⟩⟩
    · exact hK 0 S' ⟨hm, Or.inl ⟨rfl, p1⟩⟩
  · rcases h2 with ⟨w, -⟩ | ⟨rfl, p1⟩
    · omega
    · exact hK 0 S' ⟨hm, Or.inl ⟨rfl, p1⟩⟩
  · rcases h2 with ⟨rfl, M', p1, p2, p3⟩ | ⟨w, -⟩
    · have a0 : 0 ≤ l4 := by omega
      have a1 : l4 < X.2.1.length := by omega
      obtain ⟨⟨e16, e17, e18, e19⟩, k1, k2, k3, k4, k5, k6⟩ := cm_a hC' a0 a1
      have v4 := p1.1.v4
      rw [show (xAf X l1 + xAc X l1 - l4).toNat = (xAf X l1 + xAc X l1 - (l4 + 1)).toNat + 1 by omega] at p3
      have hM1 : M'.2 1 l1 = M.2 1 l1 := by rw [p2.2.2.2 1 (by decide)]
      have ho' : 0 ≤ M'.2 1 l1 ∧ M'.2 1 l1 < M'.1.1 := by rw [hM1, p2.1]; exact ho
      have hc := p1.2.2.2.2.1.2.1 _ ho'.1 ho'.2
      have hc0 := hc.1
      have hc1 := hc.2
      obtain ⟨-, t232, t233, -, -⟩ := p1.2.2.2.2.2.1 l1 x0 x1
      -- what happens behind this attribute
      have go : ∀ r S2, OM T n X e fb S' (atO e T X M' l1 l4) r S2 → wX3_areAttributesSound_193 X.1.length l1 (xAf X l1) r l4 S2 K (fun ml1 ml2 ml3 ml4 T' => (ml1 = l1 ∧ ml2 = xAf X l1 ∧ xAf X l1 ≤ ml4 ∧ ml4 ≤ xAf X l1 + xAc X l1 ∧ MF S T' ∧ ((ml3 = 1 ∧ ∃ M', PMn T n X e fb M' T' ∧ AK e M M' ∧ atS e T X l1 (xAf X l1 + xAc X l1 - ml4).toNat M' ml4 = atS e T X l1 (xAc X l1).toNat M (xAf X l1)) ∨ (ml3 = 0 ∧ atS e T X l1 (xAc X l1).toNat M (xAf X l1) = none))) ∧ (xAf X l1 + xAc X l1 - ml4).toNat < (xAf X l1 + xAc X l1 - l4).toNat) := fun r S2 hO => by
        unfold wX3_areAttributesSound_193
        obtain ⟨m2, hO⟩ := hO
        refine ⟨⟨rfl, rfl, by omega, by omega, hm.tr m2, ?_⟩, by omega⟩
        rcases hO with ⟨rfl, hn⟩ | ⟨rfl, M2, hs, hP2⟩
        · refine Or.inr ⟨rfl, ?_⟩
          rw [← p3]
          show (match atO e T X M' l1 l4 with | none => none | some M' => atS e T X l1 _ M' (l4 + 1)) = none
          rw [hn]
        · refine Or.inl ⟨rfl, M2, hP2, p2.tr (atO_keep hV hc hs), ?_⟩
          rw [← p3]
          show _ = (match atO e T X M' l1 l4 with | none => none | some M' => atS e T X l1 _ M' (l4 + 1))
          rw [hs]
      have hky : sbT T (gAt X l4).1 (gAt X l4).2.1 = kyA T X l4 := rfl
      have hvl : sbT (sgV X) (gAt X l4).2.2.1 (gAt X l4).2.2.2 = vlA X l4 := rfl
      unfold atO at go
      refine q_keyFrom p1.1 a0 a1 (q_keyTo p1.1 a0 a1 ?_)
      rw [e16, e17]
      refine ⟨⟨by omega, by omega⟩, ⟨by omega, by omega⟩, q_isAt_b p1.1.1.1 p1.1.1.2 k1 (by omega) k3 (fun r hr => ?_)⟩
      rw [hky] at hr
      rcases hr with ⟨rfl, hw⟩ | ⟨rfl, hw⟩
      · rw [if_pos hw] at go
        refine ⟨⟨by decide, by decide⟩, fun w => absurd w (by decide), fun _ => ⟨x0, x1, fun _ => ?_⟩⟩
        rw [t233]
        refine ⟨fun w => ?_, fun w => ?_⟩
        · rw [if_pos w] at go
          exact go 0 S' ⟨MF.rf, Or.inl ⟨rfl, rfl⟩⟩
        · rw [if_neg w] at go
          exact go 1 S' ⟨MF.rf, Or.inr ⟨rfl, M', rfl, p1⟩⟩
      · rw [if_neg hw] at go
        refine ⟨⟨by decide, by decide⟩, fun _ => q_isAt_c p1.1.1.1 p1.1.1.2 k1 (by omega) k3 (fun r hr => ?_), fun w => absurd rfl w⟩
        rw [hky] at hr
        rcases hr with ⟨rfl, hw2⟩ | ⟨rfl, hw2⟩
        · rw [if_pos hw2] at go
          exact ⟨⟨by decide, by decide⟩, fun w => absurd w (by decide), fun _ => k_idS p1 x0 x1 a0 a1 go⟩
        · rw [if_neg hw2] at go
          refine ⟨⟨by decide, by decide⟩, fun _ => ⟨x0, x1, fun _ => ?_⟩, fun w => absurd rfl w⟩
          rw [t232]
          refine b_cls p1.2.2.2.1 p1.2.2.2.2.1 ho' ⟨⟨by omega, by omega⟩, q_fieldN p1.2.1 hV hc ⟨by decide, by decide⟩ p1.1.1.1 p1.1.1.2 k1 (by omega) k3 ?_⟩
          rw [hky]
          have hfd := fdN_ok (a := 1) hV hc (L := kyA T X l4)
          have h4 := hV.2.2.2.1 _ hc
          refine ⟨?_, fun w => ?_, fun w => ⟨x0, x1, fun _ => ?_⟩⟩
          · rcases hfd with w | ⟨w, -⟩
            · rw [w]
              exact ⟨by decide, by decide⟩
            · have := w.2
              exact ⟨by omega, by omega⟩
          · rw [if_pos w] at go
            exact go 0 S' ⟨MF.rf, Or.inl ⟨rfl, rfl⟩⟩
          · rw [if_neg w] at go
            obtain ⟨hf, hia, -⟩ := hfd.resolve_left w
            refine q_valueFrom p1.1 a0 a1 (q_valueTo p1.1 a0 a1 ?_)
            rw [e18, e19, t232]
            refine ⟨⟨by omega, by omega⟩, ⟨by omega, by omega⟩, b_fills p1.2.1 hV v4.1 v4.2 p1.2.2.2.1 p1.2.2.2.2.1 ho' hf (isA_le hia) k4 k5 k6 (sgV_mem p1.1.2.2.2.2.2.2.2.2 k4 k6) (fun hn => ?_) (fun h2 S2 hs hf2 hc2 hH2 => ?_)⟩
            · rw [hvl] at hn
              rw [hn] at go
              exact ⟨⟨by decide, by decide⟩, fun _ => go 0 S' ⟨MF.rf, Or.inl ⟨rfl, rfl⟩⟩, fun w => absurd rfl w⟩
            · rw [hvl] at hs
              rw [hs] at go
              exact ⟨⟨by decide, by decide⟩, fun w => absurd w (by decide), fun _ => go 1 S2 ⟨hf2.mf, Or.inr ⟨rfl, _, rfl, p1.heap hf2 hc2 hH2⟩⟩⟩
    · exact absurd w z2
theorem k_txt (hP : CM T n X S) (x0 : 0 ≤ x) (x1 : x < X.1.length) (hk : ¬ xKd X x = true) : 0 ≤ S.2 13 x ∧ S.2 13 x ≤ S.2 14 x ∧ S.2 14 x ≤ X.2.2.length ∧ sbT (sgV X) (S.2 13 x) (S.2 14 x) = txE X x := by
  have l := hP.len
  have ht := hP.2.2.2.2.2.1 x.toNat (by omega)
  rw [show ((x.toNat : Nat) : Int) = x by omega] at ht
  obtain ⟨t1, t2, t3, t4⟩ := ht
  have t4 := t4 (fun w => hk ((cm_kid hP x0 x1).2.mp w))
  refine ⟨t1, t2, t3, ?_⟩
  have key : ∀ (V : List (Int × Int)) (a b : Nat), a ≤ b → b ≤ V.length → (∀ i : Nat, i < V.length → ((V.getD i (0, 0)).2 = x ↔ a ≤ i ∧ i < b)) → (V.filter (fun u => decide (u.2 = x))).map (fun u => u.1) = ((V.drop a).take (b - a)).map (fun u => u.1) := fun V => by
    induction V with
    | nil => intro a b _ _ _; simp
    | cons u V ih =>
      intro a b hab hb hi
      have h0 := hi 0 (Nat.succ_pos _)
      have hs : ∀ i : Nat, i < V.length → ((V.getD i (0, 0)).2 = x ↔ a ≤ i + 1 ∧ i + 1 < b) := fun i hi' => hi (i + 1) (Nat.succ_lt_succ hi')
      have h0' : u.2 = x ↔ a ≤ 0 ∧ 0 < b := h0
      cases a with
      | zero =>
        cases b with
        | zero =>
          rw [List.filter_cons_of_neg (by rw [decide_eq_true_eq, h0']; omega), ih 0 0 (Nat.le_refl _) (Nat.zero_le _) (fun i hi' => by rw [hs i hi']; omega)]
          simp
        | succ b =>
          rw [List.filter_cons_of_pos (by rw [decide_eq_true_eq, h0']; omega), List.map_cons, ih 0 b (Nat.zero_le _) (by rw [List.length_cons] at hb; omega) (fun i hi' => by rw [hs i hi']; omega)]
          simp
      | succ a =>
        cases b with
        | zero => omega
        | succ b =>
          rw [List.filter_cons_of_neg (by rw [decide_eq_true_eq, h0']; omega), ih a b (by omega) (by rw [List.length_cons] at hb; omega) (fun i hi' => by rw [hs i hi']; omega), List.drop_succ_cons, show b + 1 - (a + 1) = b - a by omega]
  unfold txE
  rw [key X.2.2 (S.2 13 x).toNat (S.2 14 x).toNat (by omega) (by omega) (fun i hi => (t4 i hi).trans ⟨fun w => ⟨by omega, by omega⟩, fun w => ⟨by omega, by omega⟩⟩), sbT_eq]
  refine ⟨?_, fun d hd => ?_⟩
  · rw [List.length_map, List.length_take, List.length_drop]
    omega
  · rw [sgV_at (by omega) (by omega), List.getD_eq_getElem?_getD, List.getD_eq_getElem?_getD, List.getElem?_map, List.getElem?_take_of_lt (by omega), List.getElem?_drop, show (S.2 13 x).toNat + d = (S.2 13 x + (d : Int)).toNat by omega, List.getElem?_eq_getElem (show (S.2 13 x + (d : Int)).toNat < X.2.2.length by omega)]
    rfl
theorem txE_sn (hs : SV X) : ∀ u ∈ txE X x, isSn u := fun u hu => by
  unfold txE at hu
  obtain ⟨w, hw, rfl⟩ := List.mem_map.mp hu
  have hw := (List.mem_filter.mp hw).1
  obtain ⟨d, hd, rfl⟩ := List.getElem_of_mem hw
  have := hs d hd
  rw [List.getD_eq_getElem?_getD, List.getElem?_eq_getElem hd] at this
  exact this
theorem k_sound (hP : PMn T n X e fb M S) (hV : EV e) (x0 : 0 ≤ x) (x1 : x < X.1.length) (h1 : M.2 0 x = 1 → 0 ≤ M.2 1 x ∧ M.2 1 x < M.1.1) (h3 : M.2 0 x = 3 → 0 ≤ M.2 1 x ∧ M.2 1 x < M.1.1 ∧ okF e (M.1.2.1 (M.2 1 x)) (M.2 2 x) ∧ eD e (M.1.2.1 (M.2 1 x)) (M.2 2 x) ≤ 1) (hK : ∀ r S', OM T n X e fb S (sdM e T X M x) r S' → K r S') : wX3_isSound X.1.length x S K := by
  have l := hP.1.len
  have h6 := hV.2.1
  have hH := hP.2.2.2.2.1
  have hN := hH.1
  obtain ⟨t0, t1, t2, -, -⟩ := hP.2.2.2.2.2.1 x x0 x1
  obtain ⟨⟨-, -, -, -, e12⟩, -, -, -, -, -, g1, g2, g3⟩ := cm_e hP.1 x0 x1
  unfold sdM at hK
  unfold wX3_isSound
  rw [t0]
  refine fun _ => ⟨x0, x1, fun _ => ⟨fun z => ?_, fun z => ?_, fun z => ?_, fun z => ?_⟩⟩
  · rw [if_neg (by omega), if_neg (by omega), if_neg (by omega)] at hK
    exact hK 1 S ⟨MF.rf, Or.inr ⟨rfl, M, rfl, hP⟩⟩
  · rw [if_pos z] at hK
    unfold sdO at hK
    refine q_isSolid hP.1 x0 x1 (fun r hr => ?_)
    rcases hr with ⟨rfl, hs⟩ | ⟨rfl, hs⟩
    · rw [if_pos hs] at hK
      exact ⟨⟨by decide, by decide⟩, fun _ => hK 0 S ⟨MF.rf, Or.inl ⟨rfl, rfl⟩⟩, fun w => absurd (by decide) w⟩
    · rw [if_neg (by rw [hs]; decide)] at hK
      refine ⟨⟨by decide, by decide⟩, fun w => absurd rfl w, fun _ => k_atts hP hV x0 x1 (h1 z) (fun r S' hO => ?_)⟩
      have hk := hK r S' hO
      rcases hO.2 with ⟨rfl, -⟩ | ⟨rfl, -⟩
      · exact ⟨⟨by decide, by decide⟩, fun _ => hk, fun w => absurd rfl w⟩
      · exact ⟨⟨by decide, by decide⟩, fun w => absurd w (by decide), fun _ => hk⟩
  · rw [if_neg (by omega), if_pos z] at hK
    refine q_isSolid hP.1 x0 x1 (fun r hr => ?_)
    rcases hr with ⟨rfl, hs⟩ | ⟨rfl, hs⟩
    · rw [if_pos (Or.inl hs)] at hK
      exact ⟨⟨by decide, by decide⟩, fun _ => hK 0 S ⟨MF.rf, Or.inl ⟨rfl, rfl⟩⟩, fun w => absurd (by decide) w⟩
    · refine ⟨⟨by decide, by decide⟩, fun w => absurd rfl w, fun _ => q_attributeCount hP.1 x0 x1 ?_⟩
      rw [e12]
      refine ⟨⟨by omega, by omega⟩, fun w => ?_, fun w => ?_⟩
      · rw [if_pos (Or.inr w)] at hK
        exact hK 0 S ⟨MF.rf, Or.inl ⟨rfl, rfl⟩⟩
      · rw [if_neg (fun q => q.elim (fun q => by rw [hs] at q; cases q) w)] at hK
        exact hK 1 S ⟨MF.rf, Or.inr ⟨rfl, M, rfl, hP⟩⟩
  · rw [if_neg (by omega), if_neg (by omega), if_pos z] at hK
    refine q_attributeCount hP.1 x0 x1 ?_
    rw [e12]
    obtain ⟨kd1, kd2⟩ := cm_kid hP.1 x0 x1
    refine ⟨⟨by omega, by omega⟩, fun w => ?_, fun w => q_kidCount hP.1 x0 x1 ⟨⟨by omega, by omega⟩, fun w2 => ?_, fun w2 => ?_⟩⟩
    · rw [if_pos (Or.inl w)] at hK
      exact hK 0 S ⟨MF.rf, Or.inl ⟨rfl, rfl⟩⟩
    · rw [if_pos (Or.inr (kd2.mp (by omega)))] at hK
      exact hK 0 S ⟨MF.rf, Or.inl ⟨rfl, rfl⟩⟩
    · have hk : ¬ xKd X x = true := fun q => by
        have := kd2.mpr q
        omega
      rw [if_neg (fun q => q.elim w hk)] at hK
      obtain ⟨o0, o1, hf, hd⟩ := h3 z
      have f4 := okF4 hV hf
      obtain ⟨y1, y2, y3, y4⟩ := k_txt hP.1 x0 x1 hk
      have v4 := hP.1.v4
      rw [t1, t2]
      refine ⟨x0, x1, fun _ => ⟨x0, x1, fun _ => q_textFrom hP.1 x0 x1 (q_textTo hP.1 x0 x1 ⟨⟨by omega, by omega⟩, ⟨by omega, by omega⟩, b_fills hP.2.1 hV v4.1 v4.2 hP.2.2.2.1 hH ⟨o0, o1⟩ hf hd y1 y2 y3 (sgV_mem hP.1.2.2.2.2.2.2.2.2 y1 y3) (fun hn => ?_) (fun h2 S2 hs hf2 hc2 hH2 => ?_)⟩)⟩⟩
      · rw [y4] at hn
        rw [hn] at hK
        exact ⟨⟨by decide, by decide⟩, fun _ => hK 0 S ⟨MF.rf, Or.inl ⟨rfl, rfl⟩⟩, fun w => absurd rfl w⟩
      · rw [y4] at hs
        rw [hs] at hK
        exact ⟨⟨by decide, by decide⟩, fun w => absurd w (by decide), fun _ => hK 1 S2 ⟨hf2.mf, Or.inr ⟨rfl, _, rfl, hP.heap hf2 hc2 hH2⟩⟩⟩
end QS

