
/-! ways through arcs, with their letters -/
def Pth (L : ArL) : Nat → ArL → Nat → Prop
  | s, [], t => s = t
  | s, q :: P, t => q ∈ L ∧ fr q.1 = s ∧ Pth L (too q.1) P t
theorem Pth.app {L : ArL} : ∀ {P P' : ArL} {s t u : Nat}, Pth L s P t → Pth L t P' u → Pth L s (P ++ P') u
  | [], P', s, t, u, h, h' => by
    have h : s = t := h
    subst h
    exact h'
  | q :: P, P', s, t, u, h, h' => ⟨h.1, h.2.1, Pth.app h.2.2 h'⟩
theorem Pth.snoc {L : ArL} {P : ArL} {s t : Nat} {q : Nat × Nat} (h : Pth L s P t) (hq : q ∈ L) (hf : fr q.1 = t) : Pth L s (P ++ [q]) (too q.1) :=
  h.app ⟨hq, hf, rfl⟩
theorem Pth.split {L : ArL} : ∀ {P P' : ArL} {s u : Nat}, Pth L s (P ++ P') u → ∃ t, Pth L s P t ∧ Pth L t P' u
  | [], P', s, u, h => ⟨s, rfl, h⟩
  | q :: P, P', s, u, h => by
    obtain ⟨t, h1, h2⟩ := Pth.split (P := P) (P' := P') (s := too q.1) (u := u) h.2.2
    exact ⟨t, ⟨h.1, h.2.1, h1⟩, h2⟩
theorem Pth.rc {L : ArL} : ∀ {P : ArL} {s t : Nat}, Pth L s P t → Rc (aR L) s t
  | [], s, t, h => by
    have h : s = t := h
    subst h
    exact Rc.rf
  | q :: P, s, t, h => Rc.hd ⟨q, h.1, h.2.1, rfl⟩ (Pth.rc h.2.2)
theorem Pth.of_rc {L : ArL} {s t : Nat} (h : Rc (aR L) s t) : ∃ P, Pth L s P t :=
  h (fun t => ∃ P, Pth L s P t) ⟨[], rfl⟩ (fun x y ⟨P, hP⟩ ⟨q, h1, h2, h3⟩ => ⟨P ++ [q], h3 ▸ hP.snoc h1 h2⟩)
/-- the letters of an arc -/
abbrev ltr (q : Nat × Nat) : Nat × Nat := (upr q.1, lwr q.1)
/-- what a machine accepts, as rows of pairs of letters -/
def Acc (n st : Nat) (f : Nat → Bool) (L : ArL) (l : List (Nat × Nat)) : Prop := ∃ P t, Pth L st P t ∧ t < n ∧ f t = true ∧ P.map ltr = l
theorem reA_fld {n : Nat} {Q : List Nat} {q : Nat × Nat} (hq : AOK n q) (hl : Q.length ≤ 32) (hf : fr q.1 ∈ Q) (ht : too q.1 ∈ Q) : fr (reA Q q).1 = ixo Q (fr q.1) ∧ upr (reA Q q).1 = upr q.1 ∧ lwr (reA Q q).1 = lwr q.1 ∧ too (reA Q q).1 = ixo Q (too q.1) := by
  have h1 := ixo_lt hf
  have h2 := ixo_lt ht
  obtain ⟨-, -, -, h3, h4, -⟩ := hq
  exact ⟨pkA_from (by omega) (by omega) (by omega), pkA_upper (by omega) (by omega) (by omega), pkA_lower (by omega) (by omega), pkA_to (by omega)⟩
theorem ixo_getD {Q : List Nat} {t : Nat} (h : t ∈ Q) : Q.getD (ixo Q t) 0 = t := by
  have := ixo_mem h
  rw [List.getD_eq_getElem?_getD, this]
  rfl
section MADE
variable {n st : Nat} {E : Nat → Bool} {D : ArL} {W : List Nat}
theorem oa_mem (hW : WS D E n st W) (hok : DOK n D) (hst : st < n) (hb : ¬ tooBig D W) (q : Nat × Nat) : q ∈ outA D W st ↔ ∃ q0, q0 ∈ usA D W ∧ q = reA (outQ D W st) q0 := by
  obtain ⟨g1, g2, g3, g4, g5⟩ := outQ_in hW hok hst hb
  rw [outA_mem hok (by omega) g5 q, List.mem_map]
  constructor
  · rintro ⟨a, h1, h2⟩; exact ⟨a, h1, h2.symm⟩
  · rintro ⟨a, h1, h2⟩; exact ⟨a, h1, h2.symm⟩
/-- from the machine that is made to the draft -/
theorem pth_down (hW : WS D E n st W) (hok : DOK n D) (hst : st < n) (hb : ¬ tooBig D W) : ∀ {P : ArL} {i j : Nat}, i < (outQ D W st).length → Pth (outA D W st) i P j → j < (outQ D W st).length ∧ ∃ P', Pth D ((outQ D W st).getD i 0) P' ((outQ D W st).getD j 0) ∧ P'.map ltr = P.map ltr
  | [], i, j, hi, h => by
    have h : i = j := h
    subst h
    exact ⟨hi, [], rfl, rfl⟩
  | q :: P, i, j, hi, h => by
    obtain ⟨g1, g2, g3, g4, g5⟩ := outQ_in hW hok hst hb
    obtain ⟨h1, h2, h3⟩ := h
    obtain ⟨q0, hq0, rfl⟩ := (oa_mem hW hok hst hb q).mp h1
    obtain ⟨a1, a2⟩ := g5 q0 hq0
    have hq1 := hok q0 (usA_of hq0).1
    obtain ⟨e1, e2, e3, e4⟩ := reA_fld hq1 g2 a1 a2
    obtain ⟨k1, P', k2, k3⟩ := pth_down hW hok hst hb (P := P) (i := too (reA (outQ D W st) q0).1) (j := j) (by rw [e4]; exact ixo_lt a2) h3
    refine ⟨k1, q0 :: P', ⟨(usA_of hq0).1, ?_, ?_⟩, ?_⟩
    · rw [← h2, e1, ixo_getD a1]
    · rw [e4, ixo_getD a2] at k2
      exact k2
    · rw [List.map_cons, List.map_cons, k3]
      show (upr q0.1, lwr q0.1) :: _ = (upr (reA (outQ D W st) q0).1, lwr (reA (outQ D W st) q0).1) :: _
      rw [e2, e3]
/-- from the draft to the machine that is made: what comes to an end -/
theorem pth_up (hW : WS D E n st W) (hok : DOK n D) (hst : st < n) (hb : ¬ tooBig D W) {t : Nat} (ht : t < n) (hE : E t = true) : ∀ {P : ArL} {s : Nat}, Rc (aR D) st s → s < n → Pth D s P t → s ∈ W ∧ t ∈ W ∧ ∃ P', Pth (outA D W st) (ixo (outQ D W st) s) P' (ixo (outQ D W st) t) ∧ P'.map ltr = P.map ltr
  | [], s, hr, hs, h => by
    have h : s = t := h
    subst h
    have : s ∈ W := (hW.2 s).mpr ⟨hs, hr, s, hs, hE, Rc.rf⟩
    exact ⟨this, this, [], rfl, rfl⟩
  | q :: P, s, hr, hs, h => by
    obtain ⟨h1, h2, h3⟩ := h
    have hq1 := hok q h1
    have hto : too q.1 < n := hq1.2.2.1
    have hr2 : Rc (aR D) st (too q.1) := hr.st ⟨q, h1, h2, rfl⟩
    obtain ⟨k1, k2, P', k3, k4⟩ := pth_up hW hok hst hb ht hE (P := P) hr2 hto h3
    have hsW : s ∈ W := (hW.2 s).mpr ⟨hs, hr, t, ht, hE, Rc.hd ⟨q, h1, h2, rfl⟩ h3.rc⟩
    obtain ⟨c, hc⟩ := usA_has h1 (by rw [h2]; exact hsW) k1
    obtain ⟨g1, g2, g3, g4, g5⟩ := outQ_in hW hok hst hb
    obtain ⟨a1, a2⟩ := g5 _ hc
    have hq2 := usA_ok hok _ hc
    obtain ⟨e1, e2, e3, e4⟩ := reA_fld hq2 g2 a1 a2
    refine ⟨hsW, k2, reA (outQ D W st) (q.1, c) :: P', ⟨(oa_mem hW hok hst hb _).mpr ⟨_, hc, rfl⟩, ?_, ?_⟩, ?_⟩
    · rw [e1]; show ixo _ (fr q.1) = _; rw [h2]
    · rw [e4]; exact k3
    · rw [List.map_cons, List.map_cons, k4]
      show (upr (reA (outQ D W st) (q.1, c)).1, lwr (reA (outQ D W st) (q.1, c)).1) :: _ = (upr q.1, lwr q.1) :: _
      rw [e2, e3]
/-- where the machine's states stand -/
theorem oq_get (hW : WS D E n st W) (hok : DOK n D) (hst : st ∈ W) (hb : ¬ tooBig D W) : (outQ D W st).getD 0 0 = st ∧ ixo (outQ D W st) st = 0 ∧ ∀ s, s ∈ outQ D W st ↔ s ∈ W := by
  have hl : W.length ≤ 32 := by
    rcases Nat.lt_or_ge 32 W.length with h | h
    · exact absurd (Or.inl h) hb
    · exact h
  obtain ⟨h1, h2, h3⟩ := ord_all hW hok hst hl
  refine ⟨by rw [List.getD_eq_getElem?_getD, h3]; rfl, ixo_get h1 h3, h2⟩
end MADE
theorem acc_made {n st : Nat} {E : Nat → Bool} {D : ArL} {M : Ma} (h : Made n st E D (some M)) (hok : DOK n D) (hst : st < n) (l : List (Nat × Nat)) : Acc M.1 0 M.2.1 M.2.2 l ↔ Acc n st E D l := by
  obtain ⟨W, hW, ⟨_, h⟩ | ⟨hb, h⟩⟩ := h
  · cases h
  · cases h
    obtain ⟨g1, g2, g3, g4, g5⟩ := outQ_in hW hok hst hb
    constructor
    · rintro ⟨P, j, h1, h2, h3, h4⟩
      have h3 : (decide (j < (outQ D W st).length) && endQ E (outQ D W st) j) = true := h3
      have h3 : E ((outQ D W st).getD j 0) = true := (Bool.and_eq_true_iff.mp h3).2
      obtain ⟨k1, P', k2, k3⟩ := pth_down hW hok hst hb (by omega) h1
      have h5 : ((outQ D W st).getD 0 0) = st := by
        by_cases hs : st ∈ W
        · exact (oq_get hW hok hs hb).1
        · have e := (ord_none hW hst hs).2.2.1
          show (ordQ (usA D W) st).getD 0 0 = st
          rw [e]
          rfl
      rw [h5] at k2
      refine ⟨P', _, k2, ?_, h3, k3.trans h4⟩
      have h6 : (outQ D W st)[j]? = some ((outQ D W st).getD j 0) := by
        rw [List.getD_eq_getElem?_getD, List.getElem?_eq_getElem k1]; rfl
      exact g4 _ (List.mem_of_getElem? h6)
    · rintro ⟨P, t, h1, h2, h3, h4⟩
      obtain ⟨k1, k2, P', k3, k4⟩ := pth_up hW hok hst hb h2 h3 Rc.rf hst h1
      obtain ⟨e1, e2, e3⟩ := oq_get hW hok k1 hb
      rw [e2] at k3
      have ht := (e3 t).mpr k2
      refine ⟨P', _, k3, ixo_lt ht, ?_, k4.trans h4⟩
      show (decide (ixo (outQ D W st) t < (outQ D W st).length) && E ((outQ D W st).getD (ixo (outQ D W st) t) 0)) = true
      rw [ixo_getD ht, h3, decide_eq_true (ixo_lt ht)]
      rfl
