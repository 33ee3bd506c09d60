
/-! the numbering: each state is found from one ahead of it, and they are found one behind the other -/
theorem addNs_nodup : ∀ (T Q : List Nat), Q.Nodup → (T.foldl addN Q).Nodup
  | [], _, h => h
  | _ :: T, _, h => addNs_nodup T _ (addN_nodup h)
theorem nd_idx {Q : List Nat} (h : Q.Nodup) {a b y : Nat} (ha : Q[a]? = some y) (hb : Q[b]? = some y) : a = b :=
  (List.getElem?_inj (List.getElem?_eq_some_iff.mp ha).1 h).mp (ha.trans hb.symm)
theorem fold_first : ∀ (T Q : List Nat), Q.Nodup → ∀ t j y z : Nat, Q.length + 1 ≤ t → (T.foldl addN Q)[t]? = some y → (T.foldl addN Q)[t - 1]? = some z → T[j]? = some y → ∃ j', j' < j ∧ T[j']? = some z
  | [], Q, _, t, j, y, z, _, _, _, h => by simp at h
  | x :: T, Q, hQ, t, j, y, z, ht, hy, hz, hj => by
    have hy : (T.foldl addN (addN Q x))[t]? = some y := hy
    have hz : (T.foldl addN (addN Q x))[t - 1]? = some z := hz
    have hnd := addNs_nodup T _ (addN_nodup (t := x) hQ)
    obtain ⟨R, hR⟩ := addNs_pre T (addN Q x)
    by_cases c : x ∈ Q
    · have e : addN Q x = Q := by unfold addN; rw [if_pos c]
      rw [e] at hy hz hR hnd
      cases j with
      | zero =>
        have hx : x = y := Option.some.inj hj
        obtain ⟨a, ha⟩ := List.getElem?_of_mem c
        have hal := (List.getElem?_eq_some_iff.mp ha).1
        have h2 : (T.foldl addN Q)[a]? = some y := by rw [hR, List.getElem?_append_left hal, ha, hx]
        have := nd_idx hnd h2 hy
        omega
      | succ j =>
        have hj : T[j]? = some y := hj
        obtain ⟨j', h1, h2⟩ := fold_first T Q hQ t j y z ht hy hz hj
        exact ⟨j' + 1, by omega, h2⟩
    · have e : addN Q x = Q ++ [x] := by unfold addN; rw [if_neg c]
      rw [e] at hy hz hR hnd
      have hxat : (T.foldl addN (Q ++ [x]))[Q.length]? = some x := by
        rw [hR, List.append_assoc, List.getElem?_append_right (Nat.le_refl _), Nat.sub_self]
        rfl
      cases j with
      | zero =>
        have hx : x = y := Option.some.inj hj
        rw [hx] at hxat
        rw [← hx] at hxat hy
        have := nd_idx hnd hxat hy
        omega
      | succ j =>
        have hj : T[j]? = some y := hj
        by_cases c2 : t = Q.length + 1
        · refine ⟨0, by omega, ?_⟩
          rw [c2, Nat.add_sub_cancel] at hz
          show some x = some z
          rw [← hxat, hz]
        · obtain ⟨j', h1, h2⟩ := fold_first T (Q ++ [x]) (by rw [← e]; exact addN_nodup hQ) t j y z (by rw [List.length_append]; show Q.length + 1 + 1 ≤ t; omega) hy hz hj
          exact ⟨j' + 1, by omega, h2⟩
def BI (U : ArL) (k : Nat) (Q : List Nat) : Prop :=
  Q.Nodup ∧ (∀ i s, i < k → Q[i]? = some s → ∀ t, t ∈ outs U s → t ∈ Q) ∧
  (∀ t y, 1 ≤ t → Q[t]? = some y → ∃ i s, i < k ∧ i < t ∧ Q[i]? = some s ∧ y ∈ outs U s) ∧
  ∀ t y z, 2 ≤ t → Q[t]? = some y → Q[t - 1]? = some z → ∀ i q, i < k → q ∈ U → Q[i]? = some (fr q.1) → too q.1 = y → ∃ i' q', q' ∈ U ∧ Q[i']? = some (fr q'.1) ∧ too q'.1 = z ∧ (i' < i ∨ (i' = i ∧ q'.1 < q.1))
theorem srt_idx {L : ArL} (h : Srt L) {a b : Nat} {p q : Nat × Nat} (hab : a < b) (ha : L[a]? = some p) (hb : L[b]? = some q) : p.1 < q.1 := by
  obtain ⟨h1, e1⟩ := List.getElem?_eq_some_iff.mp ha
  obtain ⟨h2, e2⟩ := List.getElem?_eq_some_iff.mp hb
  have := List.pairwise_iff_getElem.mp h a b h1 h2 hab
  rw [e1, e2] at this
  exact this
theorem bi_step {U : ArL} {k s : Nat} {Q : List Nat} (hs : Srt U) (h : BI U k Q) (hk : Q[k]? = some s) : BI U (k + 1) ((outs U s).foldl addN Q) := by
  obtain ⟨h1, h2, h3, h4⟩ := h
  obtain ⟨R, hR⟩ := addNs_pre (outs U s) Q
  have hnd := addNs_nodup (outs U s) Q h1
  have hkl := (List.getElem?_eq_some_iff.mp hk).1
  have old : ∀ i, i < Q.length → ((outs U s).foldl addN Q)[i]? = Q[i]? := fun i hi => by rw [hR, List.getElem?_append_left hi]
  have new : ∀ t y, Q.length ≤ t → ((outs U s).foldl addN Q)[t]? = some y → ¬ y ∈ Q := fun t y ht hy hin => by
    obtain ⟨a, ha⟩ := List.getElem?_of_mem hin
    have hal := (List.getElem?_eq_some_iff.mp ha).1
    have := nd_idx hnd ((old a hal).trans ha) hy
    omega
  refine ⟨hnd, ?_, ?_, ?_⟩
  · intro i x hi hx t ht
    rcases Nat.lt_or_ge i k with e | e
    · rw [old i (by omega)] at hx
      exact (addNs_mem _ _ _).mpr (Or.inl (h2 i x e hx t ht))
    · have e2 : i = k := by omega
      subst e2
      rw [old i hkl, hk] at hx
      rw [← Option.some.inj hx] at ht
      exact (addNs_mem _ _ _).mpr (Or.inr ht)
  · intro t y ht hy
    rcases Nat.lt_or_ge t Q.length with e | e
    · rw [old t e] at hy
      obtain ⟨i, x, a1, a2, a3, a4⟩ := h3 t y ht hy
      exact ⟨i, x, by omega, a2, by rw [old i (by omega)]; exact a3, a4⟩
    · rcases (addNs_mem _ _ _).mp (List.mem_of_getElem? hy) with q | q
      · exact absurd q (new t y e hy)
      · exact ⟨k, s, by omega, by omega, by rw [old k hkl]; exact hk, q⟩
  · intro t y z ht hy hz i q hi hq hf hto
    have find : t - 1 < Q.length → ∃ i' q', q' ∈ U ∧ ((outs U s).foldl addN Q)[i']? = some (fr q'.1) ∧ too q'.1 = z ∧ i' < k := by
      intro e
      rw [old (t - 1) e] at hz
      obtain ⟨i', x, a1, a2, a3, a4⟩ := h3 (t - 1) z (by omega) hz
      obtain ⟨q', b1, b2, b3⟩ := (outs_mem hs).mp a4
      exact ⟨i', q', b1, by rw [old i' (by omega), b2]; exact a3, b3, a1⟩
    rcases Nat.lt_or_ge i k with e | e
    · rw [old i (by omega)] at hf
      rcases Nat.lt_or_ge t Q.length with e2 | e2
      · rw [old t e2] at hy
        rw [old (t - 1) (by omega)] at hz
        obtain ⟨i', q', b1, b2, b3, b4⟩ := h4 t y z ht hy hz i q e hq hf hto
        have hi' : i' < Q.length := (List.getElem?_eq_some_iff.mp b2).1
        exact ⟨i', q', b1, by rw [old i' hi']; exact b2, b3, b4⟩
      · exact absurd (h2 i _ e hf y ((outs_mem hs).mpr ⟨q, hq, rfl, hto⟩)) (new t y e2 hy)
    · have e2 : i = k := by omega
      subst e2
      rcases Nat.lt_or_ge (t - 1) Q.length with e3 | e3
      · obtain ⟨i', q', b1, b2, b3, b4⟩ := find e3
        exact ⟨i', q', b1, b2, b3, Or.inl b4⟩
      · rw [old i hkl, hk] at hf
        have hf : s = fr q.1 := Option.some.inj hf
        have hqs : q ∈ seg U s := (seg_mem hs).mpr ⟨hq, hf.symm⟩
        obtain ⟨j, hj⟩ := List.getElem?_of_mem hqs
        have hTj : (outs U s)[j]? = some y := by
          show ((seg U s).map (fun q => too q.1))[j]? = _
          rw [List.getElem?_map, hj]
          show some (too q.1) = _
          rw [hto]
        obtain ⟨j', c1, c2⟩ := fold_first (outs U s) Q h1 t j y z (by omega) hy hz hTj
        have c2 : ((seg U s).map (fun q => too q.1))[j']? = some z := c2
        rw [List.getElem?_map] at c2
        obtain ⟨q', d1, d2⟩ := Option.map_eq_some_iff.mp c2
        have d3 := (seg_mem hs).mp (List.mem_of_getElem? d1)
        exact ⟨i, q', d3.1, by rw [old i hkl, d3.2]; exact hk, d2, Or.inr ⟨rfl, srt_idx (seg_srt hs s) c1 d1 hj⟩⟩
theorem bi_bfs {U : ArL} (hs : Srt U) : ∀ (d k : Nat) (Q : List Nat), BI U k Q → BI U (k + d) (bfs U d k Q)
  | 0, k, Q, h => h
  | d + 1, k, Q, h => by
    cases hk : Q[k]? with
    | none =>
      have hb : bfs U (d + 1) k Q = Q := by
        show (match Q[k]? with | none => Q | some s => bfs U d (k + 1) ((outs U s).foldl addN Q)) = _
        rw [hk]
      rw [hb]
      have hl := List.getElem?_eq_none_iff.mp hk
      obtain ⟨h1, h2, h3, h4⟩ := h
      refine ⟨h1, fun i s _ hi => h2 i s (by have := (List.getElem?_eq_some_iff.mp hi).1; omega) hi, fun t y ht hy => ?_, fun t y z ht hy hz i q _ hq hf hto => h4 t y z ht hy hz i q (by have := (List.getElem?_eq_some_iff.mp hf).1; omega) hq hf hto⟩
      obtain ⟨i, s, a1, a2⟩ := h3 t y ht hy
      exact ⟨i, s, by omega, a2⟩
    | some s =>
      have hb : bfs U (d + 1) k Q = bfs U d (k + 1) ((outs U s).foldl addN Q) := by
        show (match Q[k]? with | none => Q | some s => bfs U d (k + 1) ((outs U s).foldl addN Q)) = _
        rw [hk]
      rw [hb, show k + (d + 1) = k + 1 + d by omega]
      exact bi_bfs hs d (k + 1) _ (bi_step hs h hk)
theorem bi_ord {U : ArL} (hs : Srt U) (st : Nat) : BI U 32 (ordQ U st) := by
  have h := bi_bfs hs 32 0 [st] ⟨by simp, fun i s hi => by omega, fun t y ht hy => ?_, fun t y z ht hy => ?_⟩
  · exact h
  · obtain ⟨t', rfl⟩ : ∃ t', t = t' + 1 := ⟨t - 1, by omega⟩
    simp at hy
  · obtain ⟨t', rfl⟩ : ∃ t', t = t' + 1 := ⟨t - 1, by omega⟩
    simp at hy
/-- found in order: the machine's own numbers -/
def BfsM (n : Nat) (L : ArL) : Prop := (∀ i, 1 ≤ i → i < n → ∃ q, q ∈ L ∧ fr q.1 < i ∧ too q.1 = i) ∧ ∀ q, q ∈ L → 2 ≤ too q.1 → ∃ q', q' ∈ L ∧ too q'.1 = too q.1 - 1 ∧ (fr q'.1 < fr q.1 ∨ (fr q'.1 = fr q.1 ∧ 16 * upr q'.1 + lwr q'.1 ≤ 16 * upr q.1 + lwr q.1))
theorem bf_pk {p p' : Nat} (h : p' < p) (hf : fr p' = fr p) : 16 * upr p' + lwr p' ≤ 16 * upr p + lwr p := by
  have hf : p' / 262144 = p / 262144 := hf
  show 16 * (p' / 16384 % 16) + p' / 1024 % 16 ≤ 16 * (p / 16384 % 16) + p / 1024 % 16
  omega
theorem made_bfs {n st : Nat} {E : Nat → Bool} {D : ArL} {W : List Nat} (hW : WS D E n st W) (hok : DOK n D) (hst : st < n) (hb : ¬ tooBig D W) : BfsM (outQ D W st).length (outA D W st) := by
  obtain ⟨g1, g2, g3, g4, g5⟩ := outQ_in hW hok hst hb
  obtain ⟨b1, b2, b3, b4⟩ := bi_ord (U := usA D W) (insL_srt _) st
  constructor
  · intro i h1 hi
    obtain ⟨y, hy⟩ : ∃ y, (outQ D W st)[i]? = some y := ⟨_, List.getElem?_eq_getElem hi⟩
    obtain ⟨i', s, a1, a2, a3, a4⟩ := b3 i y h1 hy
    obtain ⟨q, c1, c2, c3⟩ := (outs_mem (insL_srt _)).mp a4
    obtain ⟨f1, f2⟩ := g5 q c1
    obtain ⟨e1, e2, e3, e4⟩ := reA_fld (usA_ok hok _ c1) g2 f1 f2
    refine ⟨reA (outQ D W st) q, (oa_mem hW hok hst hb _).mpr ⟨q, c1, rfl⟩, ?_, ?_⟩
    · rw [e1, c2, ixo_get g1 a3]; exact a2
    · rw [e4, c3, ixo_get g1 hy]
  · intro q hq ht
    obtain ⟨q0, c1, rfl⟩ := (oa_mem hW hok hst hb q).mp hq
    obtain ⟨f1, f2⟩ := g5 q0 c1
    obtain ⟨e1, e2, e3, e4⟩ := reA_fld (usA_ok hok _ c1) g2 f1 f2
    rw [e4] at ht
    have hy := ixo_mem f2
    have hl := ixo_lt f2
    obtain ⟨z, hz⟩ : ∃ z, (outQ D W st)[ixo (outQ D W st) (too q0.1) - 1]? = some z := ⟨_, List.getElem?_eq_getElem (by omega)⟩
    have hi := ixo_lt f1
    obtain ⟨i', q0', d1, d2, d3, d4⟩ := b4 _ _ z ht hy hz (ixo (outQ D W st) (fr q0.1)) q0 (by omega) c1 (ixo_mem f1) rfl
    obtain ⟨f1', f2'⟩ := g5 q0' d1
    obtain ⟨e1', e2', e3', e4'⟩ := reA_fld (usA_ok hok _ d1) g2 f1' f2'
    refine ⟨reA (outQ D W st) q0', (oa_mem hW hok hst hb _).mpr ⟨q0', d1, rfl⟩, ?_, ?_⟩
    · rw [e4, e4', d3, ixo_get g1 hz]
    · rw [e1, e1', e2, e2', e3, e3', ixo_get g1 d2]
      rcases d4 with d4 | ⟨d4, d5⟩
      · exact Or.inl d4
      · refine Or.inr ⟨d4, bf_pk d5 ?_⟩
        have h6 := ixo_mem f1
        rw [← d4, d2] at h6
        exact Option.some.inj h6
