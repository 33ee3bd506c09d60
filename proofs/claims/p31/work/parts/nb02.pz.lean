theorem rc_ren {φ : Nat → Nat} {n n' : Nat} {D D' : ArL} (h : Ren φ n n') (hn : n' ≤ 1024) (hok : DOK n D) (hD : ∀ q, q ∈ D' ↔ ∃ a, a ∈ D ∧ q = renA φ a) {s t : Nat} (hr : Rc (aR D) s t) : Rc (aR D') (φ s) (φ t) := by
  refine hr.cl (S := fun t => Rc (aR D') (φ s) (φ t)) Rc.rf ?_
  rintro x y hx ⟨q, hq, e1, e2⟩
  obtain ⟨f1, _, _, f4⟩ := ren_fld h hn (hok q hq)
  exact hx.st ⟨renA φ q, (hD _).mpr ⟨q, hq, rfl⟩, by rw [f1, e1], by rw [f4, e2]⟩
theorem rc_ren' {φ : Nat → Nat} {n n' : Nat} {D D' : ArL} (h : Ren φ n n') (hn : n' ≤ 1024) (hok : DOK n D) (hD : ∀ q, q ∈ D' ↔ ∃ a, a ∈ D ∧ q = renA φ a) {s y : Nat} (hs : s < n) (hr : Rc (aR D') (φ s) y) : ∃ t, t < n ∧ y = φ t ∧ Rc (aR D) s t := by
  refine hr.cl (S := fun y => ∃ t, t < n ∧ y = φ t ∧ Rc (aR D) s t) ⟨s, hs, rfl, Rc.rf⟩ ?_
  rintro x z ⟨t, ht, e, hrt⟩ ⟨q, hq, e1, e2⟩
  obtain ⟨a, ha, rfl⟩ := (hD q).mp hq
  have hao := hok a ha
  obtain ⟨f1, _, _, f4⟩ := ren_fld h hn hao
  have e3 : fr a.1 = t := h.inj hao.2.1 ht (by rw [← f1, e1, e])
  exact ⟨too a.1, hao.2.2.1, by rw [← e2, f4], hrt.st ⟨a, ha, e3, rfl⟩⟩
theorem ws_ren {φ : Nat → Nat} {n n' st : Nat} {E E' : Nat → Bool} {D D' : ArL} {W : List Nat} (h : Ren φ n n') (hn : n' ≤ 1024) (hok : DOK n D) (hst : st < n) (hD : ∀ q, q ∈ D' ↔ ∃ a, a ∈ D ∧ q = renA φ a) (hE : ∀ s, s < n → E' (φ s) = E s) (hW : WS D E n st W) : WS D' E' n' (φ st) (W.map φ) := by
  have hWn : ∀ s, s ∈ W → s < n := fun s hs => ((hW.2 s).mp hs).1
  refine ⟨?_, fun y => ?_⟩
  · refine List.pairwise_map.mpr (hW.1.imp_of_mem ?_)
    intro a b ha hb hab e
    exact hab (h.inj (hWn a ha) (hWn b hb) e)
  · rw [List.mem_map]
    constructor
    · rintro ⟨s, hs, rfl⟩
      obtain ⟨h1, h2, e, h3, h4, h5⟩ := (hW.2 s).mp hs
      exact ⟨h.2 s h1, rc_ren h hn hok hD h2, φ e, h.2 e h3, by rw [hE e h3]; exact h4, rc_ren h hn hok hD h5⟩
    · rintro ⟨_, h2, e, h3, h4, h5⟩
      obtain ⟨s, hs, rfl, hr⟩ := rc_ren' h hn hok hD hst h2
      obtain ⟨e', he, rfl, hr2⟩ := rc_ren' h hn hok hD hs h5
      exact ⟨s, (hW.2 s).mpr ⟨hs, hr, e', he, by rw [← hE e' he]; exact h4, hr2⟩, rfl⟩
theorem made_ren {φ : Nat → Nat} {n n' st : Nat} {E E' : Nat → Bool} {D D' : ArL} {o : Option Ma} (h : Ren φ n n') (hn : n' ≤ 1024) (hok : DOK n D) (hst : st < n) (hD : ∀ q, q ∈ D' ↔ ∃ a, a ∈ D ∧ q = renA φ a) (hE : ∀ s, s < n → E' (φ s) = E s) (hM : Made n st E D o) : Made n' (φ st) E' D' o := by
  obtain ⟨W, h1, h2⟩ := hM
  have hWn : ∀ s, s ∈ W → s < n := fun s hs => ((h1.2 s).mp hs).1
  have hU := usA_ren h hn hok hWn hD
  have hb : tooBig D' (W.map φ) ↔ tooBig D W := by
    unfold tooBig
    rw [hU, List.length_map, List.length_map]
  refine ⟨W.map φ, ws_ren h hn hok hst hD hE h1, ?_⟩
  rcases h2 with ⟨a, b⟩ | ⟨a, b⟩
  · exact Or.inl ⟨hb.mpr a, b⟩
  · refine Or.inr ⟨fun hc => a (hb.mp hc), ?_⟩
    rw [b]
    obtain ⟨q1, q2, q3, q4, q5⟩ := outQ_in h1 hok hst a
    have hokU := usA_ok (W := W) hok
    have hQ : outQ D' (W.map φ) (φ st) = (outQ D W st).map φ := by
      show bfs (usA D' (W.map φ)) 32 0 [φ st] = List.map φ (bfs (usA D W) 32 0 [st])
      rw [hU]
      exact bfs_ren h hn hokU 32 0 [st] (fun s hs => by rw [List.mem_singleton] at hs; rw [hs]; exact hst)
    have hA : outA D' (W.map φ) (φ st) = outA D W st := by
      show insL ((usA D' (W.map φ)).map (reA (outQ D' (W.map φ) (φ st)))) [] = insL ((usA D W).map (reA (outQ D W st))) []
      rw [hU, hQ, List.map_map]
      congr 1
      apply List.map_congr_left
      intro a ha
      obtain ⟨f1, f2, f3, f4⟩ := ren_fld h hn (hokU a ha)
      show reA ((outQ D W st).map φ) (renA φ a) = reA (outQ D W st) a
      unfold reA
      rw [f1, f2, f3, f4, ixo_ren h _ _ q4 (q5 a ha).1, ixo_ren h _ _ q4 (q5 a ha).2]
      rfl
    have hE2 : mdE E' (outQ D' (W.map φ) (φ st)) = mdE E (outQ D W st) := by
      rw [hQ]
      funext k
      unfold mdE
      rw [List.length_map]
      by_cases hk : k < (outQ D W st).length
      · have e1 : (outQ D W st)[k]? = some ((outQ D W st)[k]) := List.getElem?_eq_getElem hk
        have hin := q4 _ (List.getElem_mem hk)
        unfold endQ
        rw [List.getD_eq_getElem?_getD, List.getD_eq_getElem?_getD, List.getElem?_map, e1]
        show (decide _ && E' (φ _)) = (decide _ && E _)
        rw [hE _ hin]
        rfl
      · rw [decide_eq_false hk]; rfl
    show some (_, mdE E (outQ D W st), outA D W st) = some (_, mdE E' (outQ D' (W.map φ) (φ st)), outA D' (W.map φ) (φ st))
    rw [hE2, hA, hQ, List.length_map]
