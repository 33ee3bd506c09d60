abbrev Ma : Type := Nat × (Nat → Bool) × ArL
def Acy (g : Nat → Nat) (L : ArL) : Prop := ∃ r : Nat → Nat, ∀ q, q ∈ L → g q.1 = 8 → r (too q.1) < r (fr q.1)
def VM (M : Ma) : Prop := 1 ≤ M.1 ∧ M.1 ≤ 32 ∧ M.2.2.length ≤ 160 ∧ Srt M.2.2 ∧ DOK M.1 M.2.2 ∧ Acy upr M.2.2 ∧ Acy lwr M.2.2
theorem eB_cg {f g : Nat → Bool} : ∀ {n : Nat}, (∀ k, k < n → f k = g k) → eB f n = eB g n
  | 0, _ => rfl
  | n + 1, h => by
    rw [eB, eB, eB_cg (n := n) (fun k hk => h k (by omega)), h n (by omega)]
def mdE (E : Nat → Bool) (Q : List Nat) (k : Nat) : Bool := decide (k < Q.length) && endQ E Q k
abbrev mdM (E : Nat → Bool) (D : ArL) (W : List Nat) (st : Nat) : Ma := ((outQ D W st).length, mdE E (outQ D W st), outA D W st)
def Made (n st : Nat) (E : Nat → Bool) (D : ArL) (o : Option Ma) : Prop := ∃ W, WS D E n st W ∧ ((tooBig D W ∧ o = none) ∨ (¬ tooBig D W ∧ o = some (mdM E D W st)))
theorem mdE_eB (E : Nat → Bool) (Q : List Nat) : eB (mdE E Q) Q.length = eB (endQ E Q) Q.length := eB_cg (fun k hk => by unfold mdE; rw [decide_eq_true hk]; rfl)
theorem outQ_in {D : ArL} {E : Nat → Bool} {n st : Nat} {W : List Nat} (hW : WS D E n st W) (hok : DOK n D) (hst : st < n) (hb : ¬ tooBig D W) : (outQ D W st).Nodup ∧ (outQ D W st).length ≤ 32 ∧ 1 ≤ (outQ D W st).length ∧ (∀ s, s ∈ outQ D W st → s < n) ∧ ∀ q, q ∈ usA D W → fr q.1 ∈ outQ D W st ∧ too q.1 ∈ outQ D W st := by
  have hwl : W.length ≤ 32 := by
    rcases Nat.lt_or_ge 32 W.length with h | h
    · exact absurd (Or.inl h) hb
    · exact h
  by_cases hs : st ∈ W
  · obtain ⟨a, b, c⟩ := ord_all hW hok hs hwl
    refine ⟨a, Nat.le_trans (nodup_le _ W a (fun s h => (b s).mp h)) hwl, ?_, fun s h => ((hW.2 s).mp ((b s).mp h)).1, fun q hq => ⟨(b _).mpr (usA_of hq).2.1, (b _).mpr (usA_of hq).2.2⟩⟩
    exact (List.getElem?_eq_some_iff.mp c).1
  · obtain ⟨w1, w2, w3, w4⟩ := ord_none hW hst hs
    have hQ : outQ D W st = [st] := w3
    rw [hQ]
    refine ⟨by simp, by simp, by simp, fun s h => ?_, fun q hq => ?_⟩
    · rw [List.mem_singleton] at h; rw [h]; exact hst
    · rw [w2] at hq; cases hq
theorem Made.uq {n n' st : Nat} {E E' : Nat → Bool} {D D' : ArL} {o o' : Option Ma} (h : Made n st E D o) (h' : Made n' st E' D' o') (hD : ∀ q, q ∈ D ↔ q ∈ D') (hst : st < n) (hst' : st < n') (hok : DOK n D) (hok' : DOK n' D') (hE : ∀ s, s < n → s < n' → E s = E' s) : o = o' := by
  obtain ⟨W, h1, h2⟩ := h
  obtain ⟨W', h1', h2'⟩ := h'
  have hW := WS.uq h1 h1' hD hst hst' hok hok' hE
  have hb := big.uq (D := D) (D' := D') hD hW h1.1 h1'.1
  have hU : usA D W = usA D' W' := usA.uq hD hW
  rcases h2 with ⟨a, b⟩ | ⟨a, b⟩ <;> rcases h2' with ⟨a', b'⟩ | ⟨a', b'⟩
  · rw [b, b']
  · exact absurd (hb.mp a) a'
  · exact absurd (hb.mpr a') a
  · rw [b, b']
    have hQ : outQ D W st = outQ D' W' st := by show ordQ _ _ = ordQ _ _; rw [hU]
    have hA : outA D W st = outA D' W' st := by show insL _ _ = insL _ _; rw [hU, hQ]
    have hm : mdE E (outQ D W st) = mdE E' (outQ D' W' st) := by
      rw [← hQ]
      funext k
      unfold mdE
      by_cases hk : k < (outQ D W st).length
      · have hin : (outQ D W st).getD k 0 ∈ outQ D W st := by
          rw [List.getD_eq_getElem?_getD, List.getElem?_eq_getElem hk]
          exact List.getElem_mem hk
        have l1 := (outQ_in h1 hok hst a).2.2.2.1 _ hin
        rw [hQ] at hin
        have l2 := (outQ_in h1' hok' hst' a').2.2.2.1 _ hin
        rw [← hQ] at l2
        unfold endQ
        rw [hE _ l1 l2]
      · rw [decide_eq_false hk]; rfl
    show some (_, mdE E (outQ D W st), outA D W st) = some (_, mdE E' (outQ D' W' st), outA D' W' st)
    rw [hm, hA, hQ]
theorem made_acy {g : Nat → Nat} {n : Nat} {D : ArL} {W Q : List Nat} (hg : ∀ q, AOK n q → fr q.1 ∈ Q → too q.1 ∈ Q → Q.length ≤ 32 → g (reA Q q).1 = g q.1) (hok : DOK n D) (hl : Q.length ≤ 32) (hQ : ∀ q, q ∈ usA D W → fr q.1 ∈ Q ∧ too q.1 ∈ Q) (h : Acy g D) : Acy g (insL ((usA D W).map (reA Q)) []) := by
  obtain ⟨r, hr⟩ := h
  refine ⟨fun i => r (Q.getD i 0), ?_⟩
  intro q hq h8
  obtain ⟨a, ha, rfl⟩ := List.mem_map.mp (insL_of hq)
  have h1 := hQ a ha
  have hao := usA_ok (W := W) hok a ha
  rw [hg a hao h1.1 h1.2 hl] at h8
  have h2 := hr a (usA_of ha).1 h8
  have x1 := ixo_lt h1.1
  have x2 := ixo_lt h1.2
  have u := hao.2.2.2.1
  have l := hao.2.2.2.2.1
  have hfr : fr (reA Q a).1 = ixo Q (fr a.1) := pkA_from (by omega) (by omega) (by omega)
  have hto : too (reA Q a).1 = ixo Q (too a.1) := pkA_to (by omega)
  have k1 : Q.getD (ixo Q (fr a.1)) 0 = fr a.1 := by rw [List.getD_eq_getElem?_getD, ixo_mem h1.1]; rfl
  have k2 : Q.getD (ixo Q (too a.1)) 0 = too a.1 := by rw [List.getD_eq_getElem?_getD, ixo_mem h1.2]; rfl
  show r (Q.getD (too (reA Q a).1) 0) < r (Q.getD (fr (reA Q a).1) 0)
  rw [hfr, hto, k1, k2]
  exact h2
theorem Made.ok {n st : Nat} {E : Nat → Bool} {D : ArL} {M : Ma} (h : Made n st E D (some M)) (hst : st < n) (hok : DOK n D) (hu : Acy upr D) (hl : Acy lwr D) : VM M := by
  obtain ⟨W, h1, h2⟩ := h
  rcases h2 with ⟨a, b⟩ | ⟨a, b⟩
  · cases b
  · obtain ⟨k1, k2, k3, k4, k5⟩ := outQ_in h1 hok hst a
    have hU : (usA D W).length ≤ 160 := by
      rcases Nat.lt_or_ge 160 (usA D W).length with h | h
      · exact absurd (Or.inr h) a
      · exact h
    have e := Option.some.inj b
    rw [e]
    refine ⟨k3, k2, ?_, insL_srt _, ?_, ?_, ?_⟩
    · have := (insL_len ((usA D W).map (reA (outQ D W st))) []).2
      rw [List.length_map] at this
      have h0 : ([] : ArL).length = 0 := rfl
      show (insL ((usA D W).map (reA (outQ D W st))) []).length ≤ 160
      omega
    · refine insL_ok ?_
      intro x hx
      obtain ⟨q, hq, rfl⟩ := List.mem_map.mp hx
      exact reA_ok (usA_ok (W := W) hok q hq) (k5 q hq).1 (k5 q hq).2 (by omega)
    · refine made_acy ?_ hok k2 k5 hu
      intro q hq f t hl
      have x1 := ixo_lt f
      have x2 := ixo_lt t
      have u := hq.2.2.2.1
      have l := hq.2.2.2.2.1
      exact pkA_upper (by omega) (by omega) (by omega)
    · refine made_acy ?_ hok k2 k5 hl
      intro q hq f t hl
      have x2 := ixo_lt t
      have l := hq.2.2.2.2.1
      exact pkA_lower (by omega) (by omega)
theorem made_small {n st : Nat} {E : Nat → Bool} {D : ArL} (hn : n ≤ 32) (hD : D.length ≤ 160) (h : Made n st E D none) : False := by
  obtain ⟨W, h1, h2⟩ := h
  rcases h2 with ⟨a, b⟩ | ⟨a, b⟩
  · have h3 := nodup_bound h1.1 (fun x hx => ((h1.2 x).mp hx).1)
    have h4 := (insL_len (D.filter (inW W)) []).2
    have h5 := List.length_filter_le (inW W) D
    have h0 : ([] : ArL).length = 0 := rfl
    rcases a with a | a
    · omega
    · have a : 160 < (insL (D.filter (inW W)) []).length := a
      omega
  · cases b
abbrev Ls : Type := List (List Nat × Nat)
def InC (m : Mem) (Ms : List Ma) (w : List Nat) (ls : Ls) : Prop :=
  m 0 3 = nI Ms.length ∧ (∀ i M, Ms[i]? = some M → MC m (200 + 4 * i) M.1 (eB M.2.1 M.1) M.2.2) ∧ m 0 1 = nI w.length ∧ (∀ j x, w[j]? = some x → m 1 j = nI x) ∧ m 60 5 = nI ls.length ∧ (∀ i p, ls[i]? = some p → m 62 i = nI p.1.length ∧ m 63 i = nI p.2 ∧ ∀ j x, p.1[j]? = some x → m 61 (8 * i + j) = nI x) ∧ ((m 20 10 = nI 33 ∧ m 20 11 = nI 34) ∨ (m 20 10 = nI 34 ∧ m 20 11 = nI 33))
def InM (m : Mem) (Ms : List Ma) (w : List Nat) (ls : Ls) : Prop :=
  m 70 11 = nI Ms.length ∧ (∀ i M, Ms[i]? = some M → MM m i M.1 (eB M.2.1 M.1) M.2.2) ∧ m 70 2 = nI w.length ∧ (∀ j x, w[j]? = some x → m 71 j = nI x) ∧ m 70 46 = nI ls.length ∧ (∀ i p, ls[i]? = some p → m 106 i = nI p.1.length ∧ m 107 i = nI p.2 ∧ ∀ j x, p.1[j]? = some x → m 105 (8 * i + j) = nI x)
def InV (Ms : List Ma) (w : List Nat) (ls : Ls) : Prop :=
  Ms.length ≤ 24 ∧ (∀ M, M ∈ Ms → VM M) ∧ w.length ≤ 8 ∧ (∀ x, x ∈ w → x < 8) ∧ ls.length ≤ 30 ∧ ∀ p, p ∈ ls → p.1.length ≤ 8 ∧ (∀ x, x ∈ p.1 → x < 8) ∧ p.2 < 6
theorem MC.cg {m m' : Mem} {a n : Nat} {e : Int32} {L : ArL} (h : MC m a n e L) (h1 : m' a = m a) (h2 : m' (a + 1) = m (a + 1)) (h3 : m' (a + 1 + 1) = m (a + 1 + 1)) (h4 : m' (a + 1 + 2) = m (a + 1 + 2)) : MC m' a n e L := ⟨by rw [h1]; exact h.1, by rw [h1]; exact h.2.1, h.2.2.cg h2 h3 h4⟩
theorem InC.cg {m m' : Mem} {Ms : List Ma} {w : List Nat} {ls : Ls} (h : InC m Ms w ls) (hf : ∀ k, k = 0 ∨ k = 1 ∨ k = 20 ∨ (60 ≤ k ∧ k < 64) ∨ 200 ≤ k → m' k = m k) : InC m' Ms w ls := by
  obtain ⟨h1, h2, h3, h4, h5, h6, h7⟩ := h
  refine ⟨by rw [hf 0 (by omega)]; exact h1, fun i M hM => (h2 i M hM).cg (hf _ (by omega)) (hf _ (by omega)) (hf _ (by omega)) (hf _ (by omega)), by rw [hf 0 (by omega)]; exact h3, fun j x hx => by rw [hf 1 (by omega)]; exact h4 j x hx, by rw [hf 60 (by omega)]; exact h5, fun i p hp => ?_, by rw [hf 20 (by omega)]; exact h7⟩
  obtain ⟨a, b, c⟩ := h6 i p hp
  exact ⟨by rw [hf 62 (by omega)]; exact a, by rw [hf 63 (by omega)]; exact b, fun j x hx => by rw [hf 61 (by omega)]; exact c j x hx⟩
theorem MM.cg {m m' : Mem} {i n : Nat} {e : Int32} {L : ArL} (h : MM m i n e L) (hf : ∀ k, 72 ≤ k → k < 75 → m' k i = m k i) (hg : ∀ k j, 75 ≤ k → k < 80 → j < L.length → m' k (160 * i + j) = m k (160 * i + j)) : MM m' i n e L := by
  obtain ⟨h1, h2, h3, h4⟩ := h
  refine ⟨by rw [hf 72 (by omega) (by omega)]; exact h1, by rw [hf 73 (by omega) (by omega)]; exact h2, by rw [hf 74 (by omega) (by omega)]; exact h3, fun j q hq => ?_⟩
  have hj := (List.getElem?_eq_some_iff.mp hq).1
  obtain ⟨a, b, c, d, f⟩ := h4 j q hq
  exact ⟨by rw [hg 75 j (by omega) (by omega) hj]; exact a, by rw [hg 76 j (by omega) (by omega) hj]; exact b, by rw [hg 77 j (by omega) (by omega) hj]; exact c, by rw [hg 78 j (by omega) (by omega) hj]; exact d, by rw [hg 79 j (by omega) (by omega) hj]; exact f⟩
theorem InM.cg {m m' : Mem} {Ms : List Ma} {w : List Nat} {ls : Ls} (h : InM m Ms w ls) (hf : ∀ k, (71 ≤ k ∧ k < 80) ∨ (105 ≤ k ∧ k < 108) → m' k = m k) (g1 : m' 70 11 = m 70 11) (g2 : m' 70 2 = m 70 2) (g3 : m' 70 46 = m 70 46) : InM m' Ms w ls := by
  obtain ⟨h1, h2, h3, h4, h5, h6⟩ := h
  refine ⟨by rw [g1]; exact h1, fun i M hM => (h2 i M hM).cg (fun k a b => by rw [hf k (by omega)]) (fun k j a b _ => by rw [hf k (by omega)]), by rw [g2]; exact h3, fun j x hx => by rw [hf 71 (by omega)]; exact h4 j x hx, by rw [g3]; exact h5, fun i p hp => ?_⟩
  obtain ⟨a, b, c⟩ := h6 i p hp
  exact ⟨by rw [hf 106 (by omega)]; exact a, by rw [hf 107 (by omega)]; exact b, fun j x hx => by rw [hf 105 (by omega)]; exact c j x hx⟩
theorem InM.fx {m m' : Mem} {lo hi : Nat} {J : List Nat} {Ms : List Ma} {w : List Nat} {ls : Ls} (h : InM m Ms w ls) (hf : Fx lo hi J m m') (h1 : 80 ≤ lo) (h2 : hi ≤ 105) (j1 : ¬ 11 ∈ J) (j2 : ¬ 2 ∈ J) (j3 : ¬ 46 ∈ J) : InM m' Ms w ls := h.cg (fun k hk => hf.1 k (by omega) (by omega)) (hf.2 11 j1) (hf.2 2 j2) (hf.2 46 j3)
def rsC (c : Nat) (o : Option Ma) : Int32 ⊕ Nat := match o with | none => .inr 1 | some _ => .inl (nI c)
theorem snoc_last {α : Type} {L : List α} {x y : α} {i : Nat} (h : (L ++ [x])[i]? = some y) : L[i]? = some y ∨ (i = L.length ∧ y = x) := by
  rcases Nat.lt_or_ge i L.length with hi | hi
  · rw [List.getElem?_append_left hi] at h; exact Or.inl h
  · rw [List.getElem?_append_right hi] at h
    rcases Nat.eq_zero_or_pos (i - L.length) with e | e
    · rw [e] at h
      exact Or.inr ⟨by omega, (Option.some.inj h).symm⟩
    · rw [List.getElem?_eq_none (by show 1 ≤ _; exact e)] at h; cases h
theorem cls_keep {N n st : Nat} {m md : Mem} {E : Nat → Bool} {D : ArL} {Ms : List Ma} {w : List Nat} {ls : Ls} (hN : 30000 < N) (hI : InC m Ms w ls) (hoff : Off 3 16 m md) (h : DR md n st E D) (hn : n ≤ 1024) (hst : st < n) (hD : D.length ≤ 25600) (hok : DOK n D) (hc : Ms.length ≤ 24) :
    ∃ o m1, (if Ms.length < 24 then Made n st E D o else o = none) ∧ F_X7_keepDraft N md = some (rsC Ms.length o, m1) ∧ InC m1 (Ms ++ o.toList) w ls ∧ ∀ k, 64 ≤ k → k < 200 → m1 k = m k := by
  have hI2 : InC md Ms w ls := hI.cg (fun k hk => hoff k (by omega))
  by_cases hc2 : Ms.length < 24
  · obtain ⟨m1, W, g1, g2⟩ := kd_keep hN h hn hst hD hok hI2.1 hc2
    rcases g2 with ⟨a, b, c, d⟩ | ⟨a, b, c, d, e⟩
    · refine ⟨none, m1, by rw [if_pos hc2]; exact ⟨W, g1, Or.inl ⟨a, rfl⟩⟩, b, ?_, fun k k1 k2 => by rw [c.1 k (by omega) (by omega) (by omega), hoff k (by omega)]⟩
      show InC m1 (Ms ++ []) w ls
      rw [List.append_nil]
      obtain ⟨h1, h2, h3, h4, h5, h6, h7⟩ := hI2
      refine ⟨d, fun i M hM => ?_, by rw [c.2 1 (by omega)]; exact h3, fun j x hx => by rw [c.1 1 (by omega) (by omega) (by omega)]; exact h4 j x hx, by rw [c.1 60 (by omega) (by omega) (by omega)]; exact h5, fun i p hp => ?_, by rw [c.1 20 (by omega) (by omega) (by omega)]; exact h7⟩
      · have hi := (List.getElem?_eq_some_iff.mp hM).1
        exact (h2 i M hM).cg (c.1 _ (by omega) (by omega) (by omega)) (c.1 _ (by omega) (by omega) (by omega)) (c.1 _ (by omega) (by omega) (by omega)) (c.1 _ (by omega) (by omega) (by omega))
      · obtain ⟨x1, x2, x3⟩ := h6 i p hp
        exact ⟨by rw [c.1 62 (by omega) (by omega) (by omega)]; exact x1, by rw [c.1 63 (by omega) (by omega) (by omega)]; exact x2, fun j x hx => by rw [c.1 61 (by omega) (by omega) (by omega)]; exact x3 j x hx⟩
    · refine ⟨some (mdM E D W st), m1, by rw [if_pos hc2]; exact ⟨W, g1, Or.inr ⟨a, rfl⟩⟩, b, ?_, fun k k1 k2 => by rw [c.1 k (by omega) (by omega) (by omega), hoff k (by omega)]⟩
      show InC m1 (Ms ++ [mdM E D W st]) w ls
      obtain ⟨h1, h2, h3, h4, h5, h6, h7⟩ := hI2
      refine ⟨by rw [d, List.length_append]; rfl, fun i M hM => ?_, by rw [c.2 1 (by omega)]; exact h3, fun j x hx => by rw [c.1 1 (by omega) (by omega) (by omega)]; exact h4 j x hx, by rw [c.1 60 (by omega) (by omega) (by omega)]; exact h5, fun i p hp => ?_, by rw [c.1 20 (by omega) (by omega) (by omega)]; exact h7⟩
      · rcases snoc_last hM with hM | ⟨rfl, rfl⟩
        · have hi := (List.getElem?_eq_some_iff.mp hM).1
          exact (h2 i M hM).cg (c.1 _ (by omega) (by omega) (by omega)) (c.1 _ (by omega) (by omega) (by omega)) (c.1 _ (by omega) (by omega) (by omega)) (c.1 _ (by omega) (by omega) (by omega))
        · show MC m1 (200 + 4 * Ms.length) (outQ D W st).length (eB (mdE E (outQ D W st)) (outQ D W st).length) (outA D W st)
          rw [mdE_eB]
          exact e
      · obtain ⟨x1, x2, x3⟩ := h6 i p hp
        exact ⟨by rw [c.1 62 (by omega) (by omega) (by omega)]; exact x1, by rw [c.1 63 (by omega) (by omega) (by omega)]; exact x2, fun j x hx => by rw [c.1 61 (by omega) (by omega) (by omega)]; exact x3 j x hx⟩
  · refine ⟨none, md, by rw [if_neg hc2], kd_full hI2.1 (by omega) (by omega), ?_, fun k k1 k2 => hoff k (by omega)⟩
    show InC md (Ms ++ []) w ls
    rw [List.append_nil]; exact hI2
def Rdy (m : Mem) (n st : Nat) (E : Nat → Bool) (D : ArL) (M : Ma) : Prop := ∃ W, ¬ tooBig D W ∧ WS D E n st W ∧ M = mdM E D W st ∧ m 70 20 = nI (outQ D W st).length ∧ m 70 27 = outE E D W st ∧ ∃ Z : ArL, R5 m (Z.map (reA (outQ D W st))) ∧ Z.Nodup ∧ ∀ q, q ∈ Z ↔ q ∈ usA D W
theorem Rdy.sl {m : Mem} {n st : Nat} {E : Nat → Bool} {D : ArL} {M : Ma} (h : Rdy m n st E D M) (x : Int32) : Rdy (mup m 70 0 x) n st E D M := by
  obtain ⟨W, a, b, c, d, e, Z, f, g⟩ := h
  refine ⟨W, a, b, c, by rw [mup_j (by omega)]; exact d, by rw [mup_j (by omega)]; exact e, Z, ⟨by rw [mup_j (by omega)]; exact f.1, fun j q hq => ?_⟩, g⟩
  obtain ⟨x1, x2, x3, x4, x5⟩ := f.2 j q hq
  exact ⟨by rw [mup_c (by omega)]; exact x1, by rw [mup_c (by omega)]; exact x2, by rw [mup_c (by omega)]; exact x3, by rw [mup_c (by omega)]; exact x4, by rw [mup_c (by omega)]; exact x5⟩
