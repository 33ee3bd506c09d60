def ixo : List Nat → Nat → Nat
  | [], _ => 0
  | x :: Q, t => if x = t then 0 else ixo Q t + 1
theorem ixo_mem : ∀ {Q : List Nat} {t : Nat}, t ∈ Q → Q[ixo Q t]? = some t
  | x :: Q, t, h => by
    rw [ixo]
    split
    · rename_i e; rw [List.getElem?_cons_zero, e]
    · rename_i e
      rw [List.getElem?_cons_succ]
      exact ixo_mem ((List.mem_cons.mp h).elim (fun h => absurd h.symm e) id)
theorem ixo_lt {Q : List Nat} {t : Nat} (h : t ∈ Q) : ixo Q t < Q.length := (List.getElem?_eq_some_iff.mp (ixo_mem h)).1
theorem ixo_app : ∀ {Q : List Nat} (R : List Nat) {t : Nat}, t ∈ Q → ixo (Q ++ R) t = ixo Q t
  | x :: Q, R, t, h => by
    rw [List.cons_append, ixo, ixo]
    split
    · rfl
    · rename_i e
      rw [ixo_app R ((List.mem_cons.mp h).elim (fun h => absurd h.symm e) id)]
theorem ixo_new : ∀ {Q : List Nat} {t : Nat}, ¬ t ∈ Q → ixo (Q ++ [t]) t = Q.length
  | [], t, _ => by rw [List.nil_append, ixo, if_pos rfl]; rfl
  | x :: Q, t, h => by
    rw [List.cons_append, ixo, if_neg (fun e => h (by rw [e]; exact List.mem_cons_self ..)), ixo_new (fun e => h (List.mem_cons_of_mem _ e))]
    rfl
theorem ixo_inj {Q : List Nat} {s t : Nat} (hs : s ∈ Q) (ht : t ∈ Q) (h : ixo Q s = ixo Q t) : s = t := by
  have a := ixo_mem hs
  have b := ixo_mem ht
  rw [h, b] at a
  exact (Option.some.inj a).symm
theorem ixo_get : ∀ {Q : List Nat} {i t : Nat}, Q.Nodup → Q[i]? = some t → ixo Q t = i := by
  intro Q i t hn h
  have hm := List.mem_of_getElem? h
  have h2 := ixo_mem hm
  exact (List.getElem?_inj (ixo_lt hm) hn).mp (h2.trans h.symm)
theorem insL_app (A B L : ArL) : insL (A ++ B) L = insL B (insL A L) := List.foldl_append
theorem insL_one (L : ArL) (q : Nat × Nat) : insL [q] L = insR L q.1 q.2 := rfl
theorem insL_of {A : ArL} {q : Nat × Nat} (h : q ∈ insL A []) : q ∈ A := (((Cn.ofL A).2 q.1 q.2).mp h).1
theorem insL_srt (A : ArL) : Srt (insL A []) := (Cn.ofL A).1
theorem DOK.sm {n : Nat} {D : ArL} (h : DOK n D) : sm D := fun q hq => ⟨by have := (h q hq).1; omega, by have := (h q hq).2.2.2.2.2; omega⟩
theorem AR.cg {m m' : Mem} {a : Nat} {L : ArL} (h : AR m a L) (h0 : m' a = m a) (h1 : m' (a + 1) = m (a + 1)) (h2 : m' (a + 2) = m (a + 2)) : AR m' a L := ⟨by rw [h0]; exact h.1, h.2.cg h1 h2⟩
def inW (W : List Nat) (q : Nat × Nat) : Bool := decide (fr q.1 ∈ W) && decide (too q.1 ∈ W)
theorem inW_iff {W : List Nat} {q : Nat × Nat} : inW W q = true ↔ fr q.1 ∈ W ∧ too q.1 ∈ W := by unfold inW; simp
theorem take_filter {D : ArL} {u : Nat × Nat → Bool} {i : Nat} {q : Nat × Nat} (h : D[i]? = some q) : (D.take (i + 1)).filter u = (D.take i).filter u ++ (if u q then [q] else []) := by
  rw [List.take_add_one, h, List.filter_append]
  congr 1
  show List.filter u [q] = _
  rw [List.filter_cons]
  split <;> rfl
theorem dr_gather {N n st : Nat} {m : Mem} {E : Nat → Bool} {D : ArL} {W : List Nat} (hN : 30000 < N) (h : DR m n st E D) (hn : n ≤ 1024) (hD : D.length ≤ 25600) (hok : DOK n D) (hW : QM m 11 n W) :
    ∃ m', Off 13 16 m m' ∧ (((insL (D.filter (inW W)) []).length ≤ 160 ∧ F_X1_gatherUseful N m = some (nI 1, m') ∧ AR m' 13 (insL (D.filter (inW W)) [])) ∨ (160 < (insL (D.filter (inW W)) []).length ∧ F_X1_gatherUseful N m = some (nI 0, m'))) := by
  unfold F_X1_gatherUseful
  simp (disch := omega) only [zi_t, zi_f, bnd_t, zg_in, zx, nI_ltI, nI_leI, nI_eq, nI_add, pk_mul, pk_sub, mup_s, mup_c, mup_j, mrw_c, if_pos, if_neg, zm_1, zm_2, zm_3, zm_4, zm_5, zm_6, zm_7, zm_8, zm_9, zf_0, zf_1, zf_2, zf_3, zf_4, zf_5, zf_6, zf_7, zf_8, zf_9, zf_10, zf_14, zf_15, zf_16, zf_18, zf_19, zf_20, zf_24, zf_30, zf_31, zf_32, zf_33, zf_99, zf_100, zf_160, zf_200, zf_287, zf_288, zf_300, zf_1000, zf_1023, zf_1024, zf_1600, zf_3840, zf_25600, zf_36000, zf_1000000, zf_1000000000, zf_2000000000, zf_11560, za_1, za_2, za_4, za_5, za_6, za_7, za_8, za_9, za_10, za_11, za_12, za_14, za_15, za_22, za_23, za_25, za_26, za_27, za_28, za_29, za_30, za_31, za_32, za_33, za_34, za_35, za_41, za_42, za_43, za_44, za_45, za_46, za_47, za_48, za_49, za_61, za_62, za_63, za_64, za_65, za_70]
  refine loopF (fun f (m : Mem) i => L_X1_gatherUseful_10 N f m (nI i)) D.length
    (fun i m' => (insL ((D.take i).filter (inW W)) []).length ≤ 160 ∧ AR m' 13 (insL ((D.take i).filter (inW W)) []) ∧ Off 13 16 m m')
    (fun o => ∃ m', Off 13 16 m m' ∧ (((insL (D.filter (inW W)) []).length ≤ 160 ∧ o = some (nI 1, m') ∧ AR m' 13 (insL (D.filter (inW W)) [])) ∨ (160 < (insL (D.filter (inW W)) []).length ∧ o = some (nI 0, m'))))
    ?_ ?_ N 0 _ (Nat.zero_le _) ⟨by simp [insL], ⟨by rw [mup_s]; rfl, fun j q hq => (by simp [insL] at hq)⟩, Off.rf.up (by omega) (by omega)⟩ (by omega)
  · rintro f i m1 hi ⟨h1, h2, h3⟩
    obtain ⟨q, hq⟩ : ∃ q, D[i]? = some q := ⟨_, List.getElem?_eq_getElem hi⟩
    have hqm := hok q (List.mem_of_getElem? hq)
    have e5 := (h3.at (k := 3) (by omega) 5).trans h.2.2.1
    have e4 := (h3.at (k := 4) (by omega) i).trans (h.2.2.2.1 i q hq).1
    have ec := (h3.at (k := 5) (by omega) i).trans (h.2.2.2.1 i q hq).2
    have hq1 := hqm.1
    have hqc := hqm.2.2.2.2.2
    have hq2 : q.1 / 262144 < n := hqm.2.1
    have hq3 : q.1 % 1024 < n := hqm.2.2.1
    have ef := (h3.at (k := 11) (by omega) (q.1 / 262144)).trans (hW.2.2.2 _ hq2)
    have et := (h3.at (k := 11) (by omega) (q.1 % 1024)).trans (hW.2.2.2 _ hq3)
    have htk := take_filter (u := inW W) hq
    show (∃ s', _ ∧ S_X1_gatherUseful_10 N (L_X1_gatherUseful_10 N f) m1 (nI i) = _) ∨ (∃ m', _ ∧ ((_ ∧ S_X1_gatherUseful_10 N (L_X1_gatherUseful_10 N f) m1 (nI i) = _ ∧ _) ∨ (_ ∧ S_X1_gatherUseful_10 N (L_X1_gatherUseful_10 N f) m1 (nI i) = _)))
    by_cases hf : q.1 / 262144 ∈ W
    · rw [decide_eq_true hf, bI_t] at ef
      by_cases ht : q.1 % 1024 ∈ W
      · rw [decide_eq_true ht, bI_t] at et
        have hu : inW W q = true := inW_iff.mpr ⟨hf, ht⟩
        rw [if_pos hu] at htk
        have hins : insL ((D.take (i + 1)).filter (inW W)) [] = insR (insL ((D.take i).filter (inW W)) []) q.1 q.2 := by rw [htk, insL_app, insL_one]
        have hsm : sm (insL ((D.take i).filter (inW W)) []) := fun x hx => hok.sm x (List.mem_of_mem_take (List.mem_filter.mp (insL_of hx)).1)
        rcases pz_put (N := N) (a := 13) (m := m1) (p := q.1) (k := q.2) (by omega) rfl h2 (insL_srt _) hsm h1 (by omega) (by omega) with ⟨g0, m2, g1, g2, g3⟩ | ⟨g0, g1⟩
        · refine Or.inl ⟨m2, ⟨by rw [hins]; exact g0, by rw [hins]; exact g2, h3.tr g3⟩, ?_⟩
          unfold S_X1_gatherUseful_10 B_X1_gatherUseful_76
          simp (disch := omega) only [zi_t, zi_f, bnd_t, zg_in, zx, nI_ltI, nI_leI, nI_eq, nI_add, pk_mul, pk_sub, mup_s, mup_c, mup_j, mrw_c, if_pos, if_neg, zm_1, zm_2, zm_3, zm_4, zm_5, zm_6, zm_7, zm_8, zm_9, zf_0, zf_1, zf_2, zf_3, zf_4, zf_5, zf_6, zf_7, zf_8, zf_9, zf_10, zf_14, zf_15, zf_16, zf_18, zf_19, zf_20, zf_24, zf_30, zf_31, zf_32, zf_33, zf_99, zf_100, zf_160, zf_200, zf_287, zf_288, zf_300, zf_1000, zf_1023, zf_1024, zf_1600, zf_3840, zf_25600, zf_36000, zf_1000000, zf_1000000000, zf_2000000000, zf_11560, za_1, za_2, za_4, za_5, za_6, za_7, za_8, za_9, za_10, za_11, za_12, za_14, za_15, za_22, za_23, za_25, za_26, za_27, za_28, za_29, za_30, za_31, za_32, za_33, za_34, za_35, za_41, za_42, za_43, za_44, za_45, za_46, za_47, za_48, za_49, za_61, za_62, za_63, za_64, za_65, za_70, e5, e4, ec, pk_from, pk_to, ef, et]
          rw [cal_t g1]
          simp (disch := omega) only [zi_t, zi_f, bnd_t, zg_in, zx, nI_ltI, nI_leI, nI_eq, nI_add, pk_mul, pk_sub, mup_s, mup_c, mup_j, mrw_c, if_pos, if_neg, zm_1, zm_2, zm_3, zm_4, zm_5, zm_6, zm_7, zm_8, zm_9, zf_0, zf_1, zf_2, zf_3, zf_4, zf_5, zf_6, zf_7, zf_8, zf_9, zf_10, zf_14, zf_15, zf_16, zf_18, zf_19, zf_20, zf_24, zf_30, zf_31, zf_32, zf_33, zf_99, zf_100, zf_160, zf_200, zf_287, zf_288, zf_300, zf_1000, zf_1023, zf_1024, zf_1600, zf_3840, zf_25600, zf_36000, zf_1000000, zf_1000000000, zf_2000000000, zf_11560, za_1, za_2, za_4, za_5, za_6, za_7, za_8, za_9, za_10, za_11, za_12, za_14, za_15, za_22, za_23, za_25, za_26, za_27, za_28, za_29, za_30, za_31, za_32, za_33, za_34, za_35, za_41, za_42, za_43, za_44, za_45, za_46, za_47, za_48, za_49, za_61, za_62, za_63, za_64, za_65, za_70]
        · refine Or.inr ⟨m1, h3, Or.inr ⟨?_, ?_⟩⟩
          · have e : D.filter (inW W) = (D.take (i + 1)).filter (inW W) ++ (D.drop (i + 1)).filter (inW W) := by rw [← List.filter_append, List.take_append_drop]
            rw [e, insL_app, hins]
            have := (insL_len ((D.drop (i + 1)).filter (inW W)) (insR (insL ((D.take i).filter (inW W)) []) q.1 q.2)).1
            omega
          · unfold S_X1_gatherUseful_10 B_X1_gatherUseful_76
            simp (disch := omega) only [zi_t, zi_f, bnd_t, zg_in, zx, nI_ltI, nI_leI, nI_eq, nI_add, pk_mul, pk_sub, mup_s, mup_c, mup_j, mrw_c, if_pos, if_neg, zm_1, zm_2, zm_3, zm_4, zm_5, zm_6, zm_7, zm_8, zm_9, zf_0, zf_1, zf_2, zf_3, zf_4, zf_5, zf_6, zf_7, zf_8, zf_9, zf_10, zf_14, zf_15, zf_16, zf_18, zf_19, zf_20, zf_24, zf_30, zf_31, zf_32, zf_33, zf_99, zf_100, zf_160, zf_200, zf_287, zf_288, zf_300, zf_1000, zf_1023, zf_1024, zf_1600, zf_3840, zf_25600, zf_36000, zf_1000000, zf_1000000000, zf_2000000000, zf_11560, za_1, za_2, za_4, za_5, za_6, za_7, za_8, za_9, za_10, za_11, za_12, za_14, za_15, za_22, za_23, za_25, za_26, za_27, za_28, za_29, za_30, za_31, za_32, za_33, za_34, za_35, za_41, za_42, za_43, za_44, za_45, za_46, za_47, za_48, za_49, za_61, za_62, za_63, za_64, za_65, za_70, e5, e4, ec, pk_from, pk_to, ef, et]
            rw [cal_t g1]
            simp (disch := omega) only [zi_t, zi_f, bnd_t, zg_in, zx, nI_ltI, nI_leI, nI_eq, nI_add, pk_mul, pk_sub, mup_s, mup_c, mup_j, mrw_c, if_pos, if_neg, zm_1, zm_2, zm_3, zm_4, zm_5, zm_6, zm_7, zm_8, zm_9, zf_0, zf_1, zf_2, zf_3, zf_4, zf_5, zf_6, zf_7, zf_8, zf_9, zf_10, zf_14, zf_15, zf_16, zf_18, zf_19, zf_20, zf_24, zf_30, zf_31, zf_32, zf_33, zf_99, zf_100, zf_160, zf_200, zf_287, zf_288, zf_300, zf_1000, zf_1023, zf_1024, zf_1600, zf_3840, zf_25600, zf_36000, zf_1000000, zf_1000000000, zf_2000000000, zf_11560, za_1, za_2, za_4, za_5, za_6, za_7, za_8, za_9, za_10, za_11, za_12, za_14, za_15, za_22, za_23, za_25, za_26, za_27, za_28, za_29, za_30, za_31, za_32, za_33, za_34, za_35, za_41, za_42, za_43, za_44, za_45, za_46, za_47, za_48, za_49, za_61, za_62, za_63, za_64, za_65, za_70]
      · rw [decide_eq_false ht, bI_f] at et
        have hu : ¬ inW W q = true := fun h => ht (inW_iff.mp h).2
        rw [if_neg hu, List.append_nil] at htk
        refine Or.inl ⟨m1, ⟨by rw [htk]; exact h1, by rw [htk]; exact h2, h3⟩, ?_⟩
        unfold S_X1_gatherUseful_10 B_X1_gatherUseful_76
        simp (disch := omega) only [zi_t, zi_f, bnd_t, zg_in, zx, nI_ltI, nI_leI, nI_eq, nI_add, pk_mul, pk_sub, mup_s, mup_c, mup_j, mrw_c, if_pos, if_neg, zm_1, zm_2, zm_3, zm_4, zm_5, zm_6, zm_7, zm_8, zm_9, zf_0, zf_1, zf_2, zf_3, zf_4, zf_5, zf_6, zf_7, zf_8, zf_9, zf_10, zf_14, zf_15, zf_16, zf_18, zf_19, zf_20, zf_24, zf_30, zf_31, zf_32, zf_33, zf_99, zf_100, zf_160, zf_200, zf_287, zf_288, zf_300, zf_1000, zf_1023, zf_1024, zf_1600, zf_3840, zf_25600, zf_36000, zf_1000000, zf_1000000000, zf_2000000000, zf_11560, za_1, za_2, za_4, za_5, za_6, za_7, za_8, za_9, za_10, za_11, za_12, za_14, za_15, za_22, za_23, za_25, za_26, za_27, za_28, za_29, za_30, za_31, za_32, za_33, za_34, za_35, za_41, za_42, za_43, za_44, za_45, za_46, za_47, za_48, za_49, za_61, za_62, za_63, za_64, za_65, za_70, e5, e4, ec, pk_from, pk_to, ef, et]
    · rw [decide_eq_false hf, bI_f] at ef
      have hu : ¬ inW W q = true := fun h => hf (inW_iff.mp h).1
      rw [if_neg hu, List.append_nil] at htk
      refine Or.inl ⟨m1, ⟨by rw [htk]; exact h1, by rw [htk]; exact h2, h3⟩, ?_⟩
      unfold S_X1_gatherUseful_10 B_X1_gatherUseful_76
      simp (disch := omega) only [zi_t, zi_f, bnd_t, zg_in, zx, nI_ltI, nI_leI, nI_eq, nI_add, pk_mul, pk_sub, mup_s, mup_c, mup_j, mrw_c, if_pos, if_neg, zm_1, zm_2, zm_3, zm_4, zm_5, zm_6, zm_7, zm_8, zm_9, zf_0, zf_1, zf_2, zf_3, zf_4, zf_5, zf_6, zf_7, zf_8, zf_9, zf_10, zf_14, zf_15, zf_16, zf_18, zf_19, zf_20, zf_24, zf_30, zf_31, zf_32, zf_33, zf_99, zf_100, zf_160, zf_200, zf_287, zf_288, zf_300, zf_1000, zf_1023, zf_1024, zf_1600, zf_3840, zf_25600, zf_36000, zf_1000000, zf_1000000000, zf_2000000000, zf_11560, za_1, za_2, za_4, za_5, za_6, za_7, za_8, za_9, za_10, za_11, za_12, za_14, za_15, za_22, za_23, za_25, za_26, za_27, za_28, za_29, za_30, za_31, za_32, za_33, za_34, za_35, za_41, za_42, za_43, za_44, za_45, za_46, za_47, za_48, za_49, za_61, za_62, za_63, za_64, za_65, za_70, e5, e4, ec, pk_from, pk_to, ef]
  · rintro f m1 ⟨h1, h2, h3⟩
    rw [List.take_length] at h1 h2
    have e5 := (h3.at (k := 3) (by omega) 5).trans h.2.2.1
    refine ⟨m1, h3, Or.inl ⟨h1, ?_, h2⟩⟩
    show S_X1_gatherUseful_10 N (L_X1_gatherUseful_10 N f) m1 (nI D.length) = _
    unfold S_X1_gatherUseful_10
    simp (disch := omega) only [zi_t, zi_f, bnd_t, zg_in, zx, nI_ltI, nI_leI, nI_eq, nI_add, pk_mul, pk_sub, mup_s, mup_c, mup_j, mrw_c, if_pos, if_neg, zm_1, zm_2, zm_3, zm_4, zm_5, zm_6, zm_7, zm_8, zm_9, zf_0, zf_1, zf_2, zf_3, zf_4, zf_5, zf_6, zf_7, zf_8, zf_9, zf_10, zf_14, zf_15, zf_16, zf_18, zf_19, zf_20, zf_24, zf_30, zf_31, zf_32, zf_33, zf_99, zf_100, zf_160, zf_200, zf_287, zf_288, zf_300, zf_1000, zf_1023, zf_1024, zf_1600, zf_3840, zf_25600, zf_36000, zf_1000000, zf_1000000000, zf_2000000000, zf_11560, za_1, za_2, za_4, za_5, za_6, za_7, za_8, za_9, za_10, za_11, za_12, za_14, za_15, za_22, za_23, za_25, za_26, za_27, za_28, za_29, za_30, za_31, za_32, za_33, za_34, za_35, za_41, za_42, za_43, za_44, za_45, za_46, za_47, za_48, za_49, za_61, za_62, za_63, za_64, za_65, za_70, e5]
