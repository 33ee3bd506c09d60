theorem nodup_leA {α : Type} [DecidableEq α] : ∀ (Q W : List α), Q.Nodup → (∀ x, x ∈ Q → x ∈ W) → Q.length ≤ W.length
  | [], _, _, _ => Nat.zero_le _
  | x :: Q, W, hn, hs => by
    have h1 := List.nodup_cons.mp hn
    have hx : x ∈ W := hs x (List.mem_cons_self ..)
    have h2 := nodup_leA Q (W.erase x) h1.2 (fun y hy => (List.mem_erase_of_ne (fun e => h1.1 (by rw [← e]; exact hy))).mpr (hs y (List.mem_cons_of_mem _ hy)))
    rw [List.length_erase_of_mem hx] at h2
    have h3 := List.length_pos_of_mem hx
    rw [List.length_cons]
    omega
/-- the states found, and their numbers, in the model -/
def NM (m : Mem) (Q : List Nat) : Prop := Q.Nodup ∧ (∀ s, s ∈ Q → s < 1024) ∧ (∀ i q, i < 33 → Q[i]? = some q → m 86 i = nI q) ∧ (∀ s, s < 1024 → m 85 s = if s ∈ Q then nI (ixo Q s) else nM) ∧ m 70 20 = nI Q.length
theorem NM.len {m : Mem} {Q : List Nat} (h : NM m Q) : Q.length ≤ 1024 := nodup_bound h.1 h.2.1
theorem NM.cg {m m' : Mem} {Q : List Nat} (h : NM m Q) (h1 : m' 85 = m 85) (h2 : m' 86 = m 86) (h3 : m' 70 20 = m 70 20) : NM m' Q := ⟨h.1, h.2.1, fun i q hi hq => by rw [h2]; exact h.2.2.1 i q hi hq, fun s hs => by rw [h1]; exact h.2.2.2.1 s hs, by rw [h3]; exact h.2.2.2.2⟩
theorem mw_finds {N t : Nat} {m : Mem} {Q : List Nat} (h : NM m Q) (ht : t < 1024) : ∃ m', F_X8_finds N m (nI t) = some m' ∧ NM m' (addN Q t) ∧ Fx 85 87 [20] m m' := by
  obtain ⟨h1, h2, h3, h4, h5⟩ := h
  have hl : Q.length ≤ 1024 := nodup_bound h1 h2
  have e85 := h4 t ht
  unfold F_X8_finds B_X8_finds_39 B_X8_finds_49
  by_cases hm : t ∈ Q
  · rw [if_pos hm] at e85
    have := ixo_lt hm
    rw [show addN Q t = Q from if_pos hm]
    refine ⟨m, ?_, ⟨h1, h2, h3, h4, h5⟩, Fx.rf⟩
    simp (disch := omega) only [zi_t, zi_f, bnd_t, zg_in, zx, nI_ltI, nI_leI, nI_eq, nI_add, pk_mul, pk_sub, mup_s, mup_c, mup_j, mrw_c, if_pos, if_neg, zm_1, zm_2, zm_3, zm_4, zm_5, zm_6, zm_7, zm_8, zm_9, zf_0, zf_1, zf_2, zf_3, zf_4, zf_5, zf_6, zf_7, zf_8, zf_9, zf_10, zf_14, zf_15, zf_16, zf_18, zf_19, zf_20, zf_24, zf_30, zf_31, zf_32, zf_33, zf_99, zf_100, zf_160, zf_200, zf_287, zf_288, zf_300, zf_1000, zf_1023, zf_1024, zf_1600, zf_3840, zf_25600, zf_36000, zf_1000000, zf_1000000000, zf_2000000000, zf_11560, za_1, za_2, za_4, za_5, za_6, za_7, za_8, za_9, za_10, za_11, za_12, za_14, za_15, za_22, za_23, za_25, za_26, za_27, za_28, za_29, za_30, za_31, za_32, za_33, za_34, za_35, za_41, za_42, za_43, za_44, za_45, za_46, za_47, za_48, za_49, za_61, za_62, za_63, za_64, za_65, za_71, za_72, za_73, za_74, za_75, za_76, za_77, za_78, za_79, za_80, za_81, za_82, za_83, za_84, za_85, za_86, za_87, za_88, za_89, za_90, za_91, za_92, za_93, za_94, za_95, za_96, za_97, za_98, za_99, za_100, za_101, za_102, za_103, za_104, za_105, za_106, za_107, za_108, e85]
  · rw [if_neg hm] at e85
    rw [show addN Q t = Q ++ [t] from if_neg hm]
    have hnum : ∀ (m' : Mem), (∀ s, m' 85 s = mup m 85 t (nI Q.length) 85 s) → ∀ s, s < 1024 → m' 85 s = if s ∈ Q ++ [t] then nI (ixo (Q ++ [t]) s) else nM := by
      intro m' he s hs
      rw [he, mup_if]
      by_cases e : s = t
      · rw [if_pos e, e, if_pos (List.mem_append.mpr (Or.inr (List.mem_singleton.mpr rfl))), ixo_new hm]
      · rw [if_neg e, h4 s hs]
        by_cases hq : s ∈ Q
        · rw [if_pos hq, if_pos (List.mem_append.mpr (Or.inl hq)), ixo_app _ hq]
        · rw [if_neg hq, if_neg]
          rw [List.mem_append, List.mem_singleton]
          exact fun h => h.elim hq e
    have hb : ∀ s, s ∈ Q ++ [t] → s < 1024 := by
      intro s hs
      rcases List.mem_append.mp hs with e | e
      · exact h2 s e
      · rw [List.mem_singleton] at e; rw [e]; exact ht
    have hll : (Q ++ [t]).length = Q.length + 1 := by rw [List.length_append]; rfl
    by_cases hbig : 32 < Q.length
    · refine ⟨mup (mup m 85 t (nI Q.length)) 70 20 (nI (Q.length + 1)), ?_, ⟨nodup_snoc h1 hm, hb, ?_, ?_, by rw [mup_s, hll]⟩, (Fx.rf.up (by omega) (by omega) (by omega)).sl (by simp)⟩
      · simp (disch := omega) only [zi_t, zi_f, bnd_t, zg_in, zx, nI_ltI, nI_leI, nI_eq, nI_add, pk_mul, pk_sub, mup_s, mup_c, mup_j, mrw_c, if_pos, if_neg, zm_1, zm_2, zm_3, zm_4, zm_5, zm_6, zm_7, zm_8, zm_9, zf_0, zf_1, zf_2, zf_3, zf_4, zf_5, zf_6, zf_7, zf_8, zf_9, zf_10, zf_14, zf_15, zf_16, zf_18, zf_19, zf_20, zf_24, zf_30, zf_31, zf_32, zf_33, zf_99, zf_100, zf_160, zf_200, zf_287, zf_288, zf_300, zf_1000, zf_1023, zf_1024, zf_1600, zf_3840, zf_25600, zf_36000, zf_1000000, zf_1000000000, zf_2000000000, zf_11560, za_1, za_2, za_4, za_5, za_6, za_7, za_8, za_9, za_10, za_11, za_12, za_14, za_15, za_22, za_23, za_25, za_26, za_27, za_28, za_29, za_30, za_31, za_32, za_33, za_34, za_35, za_41, za_42, za_43, za_44, za_45, za_46, za_47, za_48, za_49, za_61, za_62, za_63, za_64, za_65, za_71, za_72, za_73, za_74, za_75, za_76, za_77, za_78, za_79, za_80, za_81, za_82, za_83, za_84, za_85, za_86, za_87, za_88, za_89, za_90, za_91, za_92, za_93, za_94, za_95, za_96, za_97, za_98, za_99, za_100, za_101, za_102, za_103, za_104, za_105, za_106, za_107, za_108, e85, h5]
      · intro i q hi hq
        rcases snoc_get hq with ⟨a, b⟩ | ⟨a, b⟩
        · rw [mup_c (by omega), mup_c (by omega)]; exact h3 i q hi b
        · omega
      · exact hnum _ (fun s => by rw [mup_c (by omega)])
    · refine ⟨mup (mup (mup m 85 t (nI Q.length)) 86 Q.length (nI t)) 70 20 (nI (Q.length + 1)), ?_, ⟨nodup_snoc h1 hm, hb, ?_, ?_, by rw [mup_s, hll]⟩, ((Fx.rf.up (by omega) (by omega) (by omega)).up (by omega) (by omega) (by omega)).sl (by simp)⟩
      · simp (disch := omega) only [zi_t, zi_f, bnd_t, zg_in, zx, nI_ltI, nI_leI, nI_eq, nI_add, pk_mul, pk_sub, mup_s, mup_c, mup_j, mrw_c, if_pos, if_neg, zm_1, zm_2, zm_3, zm_4, zm_5, zm_6, zm_7, zm_8, zm_9, zf_0, zf_1, zf_2, zf_3, zf_4, zf_5, zf_6, zf_7, zf_8, zf_9, zf_10, zf_14, zf_15, zf_16, zf_18, zf_19, zf_20, zf_24, zf_30, zf_31, zf_32, zf_33, zf_99, zf_100, zf_160, zf_200, zf_287, zf_288, zf_300, zf_1000, zf_1023, zf_1024, zf_1600, zf_3840, zf_25600, zf_36000, zf_1000000, zf_1000000000, zf_2000000000, zf_11560, za_1, za_2, za_4, za_5, za_6, za_7, za_8, za_9, za_10, za_11, za_12, za_14, za_15, za_22, za_23, za_25, za_26, za_27, za_28, za_29, za_30, za_31, za_32, za_33, za_34, za_35, za_41, za_42, za_43, za_44, za_45, za_46, za_47, za_48, za_49, za_61, za_62, za_63, za_64, za_65, za_71, za_72, za_73, za_74, za_75, za_76, za_77, za_78, za_79, za_80, za_81, za_82, za_83, za_84, za_85, za_86, za_87, za_88, za_89, za_90, za_91, za_92, za_93, za_94, za_95, za_96, za_97, za_98, za_99, za_100, za_101, za_102, za_103, za_104, za_105, za_106, za_107, za_108, e85, h5]
      · intro i q hi hq
        rcases snoc_get hq with ⟨a, b⟩ | ⟨a, b⟩
        · rw [mup_c (by omega), mup_j (by omega), mup_c (by omega)]; exact h3 i q hi b
        · rw [a, b, mup_c (by omega), mup_s]
      · exact hnum _ (fun s => by rw [mup_c (by omega), mup_c (by omega)])
theorem seg_srt {U : ArL} (hs : Srt U) (s : Nat) : Srt (seg U s) := (hs.sublist (List.take_sublist _ _)).sublist (List.drop_sublist _ _)
/-- what the next arc is, by the rows of the arcs of use -/
theorem next_head {D : ArL} {rd us : Nat → Bool} {W : List Nat} {s lim : Nat} {l1 l2 : ArL} {x : Int32} (hW : ∀ t, t ∈ W ↔ rd t = true ∧ us t = true) (hs : s ∈ W) (hseg : seg (usA D W) s = l1 ++ l2) (h1 : ∀ q, q ∈ l1 → q.1 < lim) (h2 : ∀ q, q ∈ l2 → lim ≤ q.1)
    (hx : (x = nM ∧ ∀ q, q ∈ D → ¬ Cand D rd us s lim q) ∨ (∃ w q, x = nI w ∧ w < D.length ∧ D[w]? = some q ∧ Cand D rd us s lim q ∧ ∀ q', q' ∈ D → Cand D rd us s lim q' → q.1 < q'.1 ∨ (q.1 = q'.1 ∧ q.2 ≤ q'.2))) :
    (x = nM ∧ l2 = []) ∨ (∃ w q l3, x = nI w ∧ w < D.length ∧ D[w]? = some q ∧ l2 = q :: l3) := by
  have hU : Srt (usA D W) := insL_srt _
  have hcand : ∀ q, q ∈ l2 → q ∈ D ∧ Cand D rd us s lim q := by
    intro q hq
    have hm := (seg_mem hU).mp (by rw [hseg]; exact List.mem_append.mpr (Or.inr hq) : q ∈ seg (usA D W) s)
    have hu := usA_of hm.1
    exact ⟨hu.1, hm.2, h2 q hq, (hW _).mp hu.2.2⟩
  rcases hx with ⟨rfl, h0⟩ | ⟨w, q, rfl, hw, hq, hc, hmin⟩
  · refine Or.inl ⟨rfl, ?_⟩
    cases l2 with
    | nil => rfl
    | cons y l3 =>
      have := hcand y (List.mem_cons_self ..)
      exact absurd this.2 (h0 y this.1)
  · refine Or.inr ?_
    have hqD := List.mem_of_getElem? hq
    have hqU : q ∈ usA D W := by
      refine ((Cn.ofL _).2 q.1 q.2).mpr ⟨List.mem_filter.mpr ⟨hqD, inW_iff.mpr ⟨by rw [hc.1]; exact hs, (hW _).mpr ⟨hc.2.2.1, hc.2.2.2⟩⟩⟩, ?_⟩
      intro k' hk'
      have hk'D := (List.mem_filter.mp hk').1
      rcases hmin (q.1, k') hk'D ⟨hc.1, hc.2.1, hc.2.2.1, hc.2.2.2⟩ with e | e
      · exact absurd e (Nat.lt_irrefl _)
      · exact e.2
    have hqs : q ∈ seg (usA D W) s := (seg_mem hU).mpr ⟨hqU, hc.1⟩
    rw [hseg] at hqs
    have hq2 : q ∈ l2 := by
      rcases List.mem_append.mp hqs with e | e
      · have := h1 q e
        have := hc.2.1
        omega
      · exact e
    cases l2 with
    | nil => cases hq2
    | cons y l3 =>
      have hy := hcand y (List.mem_cons_self ..)
      have hsrt : Srt (y :: l3) := by
        have := seg_srt hU s
        rw [hseg] at this
        exact this.sublist (List.sublist_append_right _ _)
      have hyq : y = q := by
        rcases List.mem_cons.mp hq2 with e | e
        · exact e.symm
        · have h3 := (List.pairwise_cons.mp hsrt).1 q e
          rcases hmin y hy.1 hy.2 with e2 | e2 <;> omega
      exact ⟨w, q, l3, rfl, hw, hq, by rw [hyq]⟩
/-- the arcs that were made, in the model -/
def R5 (m : Mem) (M : ArL) : Prop := m 70 26 = nI M.length ∧ ∀ j q, M[j]? = some q → m 87 j = nI (fr q.1) ∧ m 88 j = nI (upr q.1) ∧ m 89 j = nI (lwr q.1) ∧ m 90 j = nI q.2 ∧ m 91 j = nI (too q.1)
theorem R5.cg {m m' : Mem} {M : ArL} (h : R5 m M) (h0 : m' 70 26 = m 70 26) (h1 : m' 87 = m 87) (h2 : m' 88 = m 88) (h3 : m' 89 = m 89) (h4 : m' 90 = m 90) (h5 : m' 91 = m 91) : R5 m' M := ⟨by rw [h0]; exact h.1, fun j q hq => by rw [h1, h2, h3, h4, h5]; exact h.2 j q hq⟩
