
/-! machines in their least form -/
section LF
variable {n : Nat} {f : Nat → Bool} {L : ArL}
theorem lf_nil (h8 : ∀ q, q ∈ L → upr q.1 ≠ 8) {s : Nat} : LangF s n f L [] ↔ s < n ∧ f s = true := by
  constructor
  · rintro ⟨P, t, h1, h2, h3, h4⟩
    cases P with
    | nil =>
      have h1 : s = t := h1
      rw [h1]; exact ⟨h2, h3⟩
    | cons q P =>
      rw [wdg_c, if_neg (h8 q h1.1)] at h4
      cases h4
  · rintro ⟨h1, h2⟩
    exact ⟨[], s, rfl, h1, h2, rfl⟩
theorem lf_cons (h8 : ∀ q, q ∈ L → upr q.1 ≠ 8) {s x : Nat} {w : List Nat} : LangF s n f L (x :: w) ↔ ∃ q, q ∈ L ∧ fr q.1 = s ∧ upr q.1 = x ∧ LangF (too q.1) n f L w := by
  constructor
  · rintro ⟨P, t, h1, h2, h3, h4⟩
    cases P with
    | nil => cases h4
    | cons q P =>
      rw [wdg_c, if_neg (h8 q h1.1)] at h4
      exact ⟨q, h1.1, h1.2.1, (List.cons.inj h4).1, P, t, h1.2.2, h2, h3, (List.cons.inj h4).2⟩
  · rintro ⟨q, h1, h2, h3, P, t, h4, h5, h6, h7⟩
    exact ⟨q :: P, t, ⟨h1, h2, h4⟩, h5, h6, by rw [wdg_c, if_neg (h8 q h1), h3, h7]⟩
end LF
section MADE
variable {n st : Nat} {E : Nat → Bool} {D : ArL} {W : List Nat}
theorem oq_0 (hW : WS D E n st W) (hok : DOK n D) (hst : st < n) (hb : ¬ tooBig D W) : (outQ D W st).getD 0 0 = st := by
  by_cases hs : st ∈ W
  · exact (oq_get hW hok hs hb).1
  · have e := (ord_none hW hst hs).2.2.1
    show (ordQ (usA D W) st).getD 0 0 = st
    rw [e]
    rfl
theorem oq_at (hW : WS D E n st W) (hok : DOK n D) (hst : st < n) (hb : ¬ tooBig D W) {i : Nat} (hi : i < (outQ D W st).length) : (outQ D W st).getD i 0 < n ∧ ixo (outQ D W st) ((outQ D W st).getD i 0) = i ∧ Rc (aR D) st ((outQ D W st).getD i 0) := by
  obtain ⟨g1, g2, g3, g4, g5⟩ := outQ_in hW hok hst hb
  have h6 : (outQ D W st)[i]? = some ((outQ D W st).getD i 0) := by
    rw [List.getD_eq_getElem?_getD, List.getElem?_eq_getElem hi]; rfl
  have hm := List.mem_of_getElem? h6
  refine ⟨g4 _ hm, ixo_get g1 h6, ?_⟩
  by_cases hs : st ∈ W
  · exact ((hW.2 _).mp (((oq_get hW hok hs hb).2.2 _).mp hm)).2.1
  · have e := (ord_none hW hst hs).2.2.1
    have hm : (outQ D W st).getD i 0 ∈ ordQ (usA D W) st := hm
    rw [e, List.mem_singleton] at hm
    rw [hm]
    exact Rc.rf
theorem lf_made (hW : WS D E n st W) (hok : DOK n D) (hst : st < n) (hb : ¬ tooBig D W) {i : Nat} (hi : i < (outQ D W st).length) (w : List Nat) : LangF i (mdM E D W st).1 (mdM E D W st).2.1 (mdM E D W st).2.2 w ↔ LangF ((outQ D W st).getD i 0) n E D w := by
  obtain ⟨g1, g2, g3, g4, g5⟩ := outQ_in hW hok hst hb
  obtain ⟨k1, k2, k3⟩ := oq_at hW hok hst hb hi
  constructor
  · rintro ⟨P, j, h1, h2, h3, h4⟩
    have h3 : (decide (j < (outQ D W st).length) && endQ E (outQ D W st) j) = true := h3
    have h3 : E ((outQ D W st).getD j 0) = true := (Bool.and_eq_true_iff.mp h3).2
    obtain ⟨hj, P', a1, a2⟩ := pth_down hW hok hst hb hi h1
    exact ⟨P', _, a1, (oq_at hW hok hst hb hj).1, h3, (wdg_ltr a2).1.trans h4⟩
  · rintro ⟨P, t, h1, h2, h3, h4⟩
    obtain ⟨a1, a2, P', a3, a4⟩ := pth_up hW hok hst hb h2 h3 k3 k1 h1
    rw [k2] at a3
    have hs : st ∈ W := by
      obtain ⟨_, b1, e, b2, b3, b4⟩ := (hW.2 _).mp a1
      exact (hW.2 st).mpr ⟨hst, Rc.rf, e, b2, b3, b1.tr b4⟩
    have ht := ((oq_get hW hok hs hb).2.2 t).mpr a2
    refine ⟨P', _, a3, ixo_lt ht, ?_, (wdg_ltr a4).1.trans h4⟩
    show (decide (ixo (outQ D W st) t < (outQ D W st).length) && E ((outQ D W st).getD (ixo (outQ D W st) t) 0)) = true
    rw [ixo_getD ht, h3, decide_eq_true (ixo_lt ht)]
    rfl
end MADE
def NF (M : Ma) : Prop := VM M ∧ BfsM M.1 M.2.2 ∧ (∀ k, M.2.1 k = true → k < M.1) ∧ (∀ q, q ∈ M.2.2 → ∃ s x t, q = (pkA s x x t, 0) ∧ s < M.1 ∧ x < 8 ∧ t < M.1) ∧
  (∀ q q', q ∈ M.2.2 → q' ∈ M.2.2 → fr q.1 = fr q'.1 → upr q.1 = upr q'.1 → q = q') ∧
  ((M.1 = 1 ∧ M.2.2 = [] ∧ M.2.1 0 = false) ∨ ((∀ i, i < M.1 → ∃ w, (∀ x, x ∈ w → x < 8) ∧ LangF i M.1 M.2.1 M.2.2 w) ∧ ∀ i j, i < M.1 → j < M.1 → i ≠ j → ∃ w, (∀ x, x ∈ w → x < 8) ∧ ¬ (LangF i M.1 M.2.1 M.2.2 w ↔ LangF j M.1 M.2.1 M.2.2 w)))
section SETS
variable {d : Nat → Nat → Option Nat} {wa u : Nat → Bool} {c t : Nat} {mem : Nat → Nat}
theorem dr_fld {s u l t c : Nat} (hu : u < 16) (hl : l < 16) (ht : t < 1024) : fr (pkA s u l t, c).1 = s ∧ upr (pkA s u l t, c).1 = u ∧ lwr (pkA s u l t, c).1 = l ∧ too (pkA s u l t, c).1 = t :=
  ⟨pkA_from hu hl ht, pkA_upper hu hl ht, pkA_lower hl ht, pkA_to ht⟩
theorem dr_lang (hF : Fc d wa u c (t + 2) ≤ 32) (hu : UOf d wa c u) (hdc : ∀ k x y, k < c → x < 8 → d k x = some y → y < c) (hst : Fc d wa u c (t + 2) = Fc d wa u c (t + 1)) (hm : MemOf d wa u c t mem) : ∀ (w : List Nat) (g : Nat), (∀ x, x ∈ w → x < 8) → g < Fc d wa u c (t + 2) → (LangF g (Fc d wa u c (t + 2)) (drE wa mem (Fc d wa u c (t + 2))) (drD d (Gs d wa u (t + 2)) mem (Fc d wa u c (t + 2))) w ↔ acD d wa (mem g) w = true) := by
  have hfld : ∀ q, q ∈ drD d (Gs d wa u (t + 2)) mem (Fc d wa u c (t + 2)) → ∃ g x j h, g < Fc d wa u c (t + 2) ∧ x < 8 ∧ d (mem g) x = some j ∧ Gs d wa u (t + 2) j = some h ∧ h < Fc d wa u c (t + 2) ∧ q = (pkA g x x h, 0) := by
    intro q hq
    obtain ⟨g, x, j, h, hg, hx, hdx, hGj, rfl⟩ := drD_mem.mp hq
    exact ⟨g, x, j, h, hg, hx, hdx, hGj, gs_lt (hdc (mem g) x j (hm g hg).1 hx hdx) hGj, rfl⟩
  have h8 : ∀ q, q ∈ drD d (Gs d wa u (t + 2)) mem (Fc d wa u c (t + 2)) → upr q.1 ≠ 8 := by
    intro q hq
    obtain ⟨g, x, j, h, hg, hx, hdx, hGj, hh, rfl⟩ := hfld q hq
    rw [(dr_fld (s := g) (c := 0) (show x < 16 by omega) (show x < 16 by omega) (show h < 1024 by omega)).2.1]
    omega
  intro w
  induction w with
  | nil =>
    intro g _ hg
    rw [lf_nil h8]
    show g < _ ∧ (decide (g < _) && wa (mem g)) = true ↔ wa (mem g) = true
    rw [decide_eq_true hg, Bool.true_and]
    exact ⟨fun h => h.2, fun h => ⟨hg, h⟩⟩
  | cons x w ih =>
    intro g hw hg
    have hx := hw x List.mem_cons_self
    have hw' : ∀ y, y ∈ w → y < 8 := fun y hy => hw y (List.mem_cons_of_mem _ hy)
    rw [lf_cons h8]
    have key : ∀ j h, d (mem g) x = some j → Gs d wa u (t + 2) j = some h → acD d wa (mem h) w = acD d wa j w := by
      intro j h hd hG
      have hj := hdc (mem g) x j (hm g hg).1 hx hd
      have hh := gs_lt hj hG
      obtain ⟨a1, a2, a3⟩ := mem_u hm hh
      exact eqv_ac hu hdc hst w (mem h) j hw' ⟨a1, hj, a2, Gs_some hG, by rw [a3, hG]⟩
    constructor
    · rintro ⟨q, h1, h2, h3, h4⟩
      obtain ⟨g', x', j, h, b1, b2, b3, b4, b5, rfl⟩ := hfld q h1
      obtain ⟨e1, e2, e3, e4⟩ := dr_fld (s := g') (c := 0) (show x' < 16 by omega) (show x' < 16 by omega) (show h < 1024 by omega)
      rw [e1] at h2
      rw [e2] at h3
      rw [e4] at h4
      subst h2
      subst h3
      rw [acD_c b3, ← key j h b3 b4]
      exact (ih h hw' b5).mp h4
    · intro ha
      cases e : d (mem g) x with
      | none => rw [acD_n e] at ha; cases ha
      | some j =>
        rw [acD_c e] at ha
        have hj := hdc (mem g) x j (hm g hg).1 hx e
        have uj := ac_u hu hdc w j hw' hj ha
        obtain ⟨h, hG⟩ := Gs_live (d := d) (wa := wa) (t := t + 2) uj
        have hh := gs_lt hj hG
        obtain ⟨e1, e2, e3, e4⟩ := dr_fld (s := g) (c := 0) (show x < 16 by omega) (show x < 16 by omega) (show h < 1024 by omega)
        refine ⟨_, drD_mem.mpr ⟨g, x, j, h, hg, hx, e, hG, rfl⟩, e1, e2, ?_⟩
        rw [e4]
        exact (ih h hw' hh).mpr (by rw [key j h e hG]; exact ha)
end SETS
theorem nf_set {c : Nat} {d : Nat → Nat → Option Nat} {wa u : Nat → Bool} {M : Ma} (h1 : 1 ≤ c) (hu : UOf d wa c u) (hdc : ∀ k x y, k < c → x < 8 → d k x = some y → y < c) (hV : VM M) (h : SetO c d wa u (some M)) : NF M ∧ ∀ w, (∀ x, x ∈ w → x < 8) → (LangF 0 M.1 M.2.1 M.2.2 w ↔ acD d wa 0 w = true) := by
  rcases h with ⟨u0, W, hW, h⟩ | ⟨t, mem, g0, ⟨u0, c1, c2, c3, c4, c5⟩, W, hW, h⟩ | ⟨_, _, h⟩
  · rcases h with ⟨_, h⟩ | ⟨hb, h⟩
    · cases h
    · cases h
      have hs : ¬ 0 ∈ W := fun hs => by
        obtain ⟨_, _, e, _, h, _⟩ := (hW.2 0).mp hs
        cases h
      obtain ⟨w1, w2, w3, w4⟩ := ord_none hW (by omega) hs
      have hQ : outQ [] W 0 = [0] := w3
      have hA : outA [] W 0 = [] := by
        show insL ((usA [] W).map _) [] = []
        rw [w2]; rfl
      have hf : ∀ k, ¬ mdE (fun _ => false) (outQ [] W 0) k = true := fun k hk => by
        have hk : (decide (k < (outQ [] W 0).length) && false) = true := hk
        rw [Bool.and_false] at hk
        cases hk
      refine ⟨⟨hV, ⟨fun i h1 hi => ?_, fun q hq => ?_⟩, fun k hk => absurd hk (hf k), fun q hq => ?_, fun q q' hq => ?_, Or.inl ⟨?_, hA, ?_⟩⟩, fun w hw => ?_⟩
      · have hi : i < (outQ [] W 0).length := hi
        rw [hQ] at hi
        have hi : i < 1 := hi
        omega
      · have hq : q ∈ outA [] W 0 := hq
        rw [hA] at hq; cases hq
      · have hq : q ∈ outA [] W 0 := hq
        rw [hA] at hq; cases hq
      · have hq : q ∈ outA [] W 0 := hq
        rw [hA] at hq; cases hq
      · show (outQ [] W 0).length = 1
        rw [hQ]; rfl
      · exact Bool.eq_false_iff.mpr (hf 0)
      · constructor
        · rintro ⟨P, s, _, _, h3, _⟩
          exact absurd h3 (hf s)
        · intro ha
          have := ac_u hu hdc w 0 hw h1 ha
          rw [u0] at this; cases this
  · rcases h with ⟨_, h⟩ | ⟨hb, h⟩
    · cases h
    · cases h
      have hok := dr_af c3 hu hdc c4
      have hg0 : g0 < Fc d wa u c (t + 2) := gs_lt h1 c5
      have hfld : ∀ q, q ∈ drD d (Gs d wa u (t + 2)) mem (Fc d wa u c (t + 2)) → ∃ g x j h, g < Fc d wa u c (t + 2) ∧ x < 8 ∧ d (mem g) x = some j ∧ Gs d wa u (t + 2) j = some h ∧ h < Fc d wa u c (t + 2) ∧ q = (pkA g x x h, 0) := by
        intro q hq
        obtain ⟨g, x, j, h, hg, hx, hdx, hGj, rfl⟩ := drD_mem.mp hq
        exact ⟨g, x, j, h, hg, hx, hdx, hGj, gs_lt (hdc (mem g) x j (c4 g hg).1 hx hdx) hGj, rfl⟩
      obtain ⟨D, hD⟩ : ∃ D, D = drD d (Gs d wa u (t + 2)) mem (Fc d wa u c (t + 2)) := ⟨_, rfl⟩
      obtain ⟨E, hE⟩ : ∃ E, E = drE wa mem (Fc d wa u c (t + 2)) := ⟨_, rfl⟩
      obtain ⟨F, hF⟩ : ∃ F, F = Fc d wa u c (t + 2) := ⟨_, rfl⟩
      have hlang : ∀ (w : List Nat) (g : Nat), (∀ x, x ∈ w → x < 8) → g < F → (LangF g F E D w ↔ acD d wa (mem g) w = true) := by
        rw [hD, hE, hF]; exact dr_lang c3 hu hdc c1 c4
      have hmem : ∀ g, g < F → mem g < c ∧ u (mem g) = true ∧ Gs d wa u (t + 2) (mem g) = some g := by
        rw [hF]; exact fun g hg => mem_u c4 hg
      rw [← hD, ← hE, ← hF] at hW
      rw [← hD] at hb hok hfld
      rw [← hF] at hok hg0 hfld c3
      rw [← hD, ← hE] at hV ⊢
      clear hD hE hF
      obtain ⟨g1, g2, g3, g4, g5⟩ := outQ_in hW hok hg0 hb
      have hq0 : ∀ q, q ∈ outA D W g0 → ∃ q0, q0 ∈ D ∧ q = reA (outQ D W g0) q0 ∧ fr q0.1 ∈ outQ D W g0 ∧ too q0.1 ∈ outQ D W g0 := by
        intro q hq
        obtain ⟨q0, a1, a2⟩ := (oa_mem hW hok hg0 hb q).mp hq
        exact ⟨q0, (usA_of a1).1, a2, g5 q0 a1⟩
      refine ⟨⟨hV, made_bfs hW hok hg0 hb, fun k hk => ?_, fun q hq => ?_, fun q q' hq hq' e1 e2 => ?_, Or.inr ⟨fun i hi => ?_, fun i j hi hj hij => ?_⟩⟩, fun w hw => ?_⟩
      · have hk : (decide (k < (outQ D W g0).length) && endQ E (outQ D W g0) k) = true := hk
        exact of_decide_eq_true (Bool.and_eq_true_iff.mp hk).1
      · obtain ⟨q0, a1, rfl, a3, a4⟩ := hq0 q hq
        obtain ⟨g, x, j, h, b1, b2, b3, b4, b5, rfl⟩ := hfld q0 a1
        obtain ⟨x1, x2, x3, x4⟩ := dr_fld (s := g) (c := 0) (show x < 16 by omega) (show x < 16 by omega) (show h < 1024 by omega)
        refine ⟨_, x, _, ?_, ixo_lt a3, b2, ixo_lt a4⟩
        show (pkA _ _ _ _, 0) = _
        rw [x2, x3]
      · obtain ⟨q0, a1, rfl, a3, a4⟩ := hq0 q hq
        obtain ⟨q0', a1', rfl, a3', a4'⟩ := hq0 q' hq'
        obtain ⟨f1, f2, f3, f4⟩ := reA_fld (hok q0 a1) g2 a3 a4
        obtain ⟨f1', f2', f3', f4'⟩ := reA_fld (hok q0' a1') g2 a3' a4'
        rw [f1, f1'] at e1
        rw [f2, f2'] at e2
        have e1 : fr q0.1 = fr q0'.1 := by rw [← ixo_getD a3, e1, ixo_getD a3']
        obtain ⟨g, x, j, h, b1, b2, b3, b4, b5, rfl⟩ := hfld q0 a1
        obtain ⟨g', x', j', h', b1', b2', b3', b4', b5', rfl⟩ := hfld q0' a1'
        obtain ⟨x1, x2, x3, x4⟩ := dr_fld (s := g) (c := 0) (show x < 16 by omega) (show x < 16 by omega) (show h < 1024 by omega)
        obtain ⟨y1, y2, y3, y4⟩ := dr_fld (s := g') (c := 0) (show x' < 16 by omega) (show x' < 16 by omega) (show h' < 1024 by omega)
        rw [x1, y1] at e1
        rw [x2, y2] at e2
        subst e1
        subst e2
        rw [b3] at b3'
        have ej := Option.some.inj b3'
        subst ej
        rw [b4] at b4'
        rw [Option.some.inj b4']
      · obtain ⟨k1, k2, k3⟩ := oq_at hW hok hg0 hb hi
        obtain ⟨w, hw, ha⟩ := u_ac hu (hmem _ k1).2.1
        exact ⟨w, hw, (lf_made hW hok hg0 hb hi w).mpr ((hlang w _ hw k1).mpr ha)⟩
      · obtain ⟨k1, k2, k3⟩ := oq_at hW hok hg0 hb hi
        obtain ⟨l1, l2, l3⟩ := oq_at hW hok hg0 hb hj
        obtain ⟨a1, a2, a3⟩ := hmem _ k1
        obtain ⟨b1, b2, b3⟩ := hmem _ l1
        obtain ⟨w, hw, hne⟩ := ac_dist hu hdc (t + 2) _ _ a1 b1 a2 b2 (fun e => hij (by
          rw [a3, b3] at e
          rw [← k2, ← l2, Option.some.inj e]))
        refine ⟨w, hw, fun hiff => hne (Bool.eq_iff_iff.mpr ?_)⟩
        rw [← hlang w _ hw k1, ← hlang w _ hw l1, ← lf_made hW hok hg0 hb hi w, ← lf_made hW hok hg0 hb hj w]
        exact hiff
      · rw [lf_made hW hok hg0 hb (by omega) w, oq_0 hW hok hg0 hb, hlang w g0 hw hg0]
        obtain ⟨a1, a2, a3⟩ := hmem g0 hg0
        rw [eqv_ac hu hdc c1 w (mem g0) 0 hw ⟨a1, h1, a2, u0, by rw [a3, c5]⟩]
  · cases h
