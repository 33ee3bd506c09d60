
/-! the law's look at a machine's form -/
theorem zl_161 : (161 : Int32) = nI 161 := rfl
section TRIM
variable {N : Nat} {Ms : List Ma} {w : List Nat} {ls : Ls} {i n : Nat} {f : Nat → Bool} {L : ArL} {m : Mem}
theorem tr_339 {live : Int64} (hn : n ≤ 32) (h1 : 1 ≤ n) (hL : L.length ≤ 160) (hl : (∀ s, s < 64 → t6 live s = decide (s < n)) ∨ (n = 1 ∧ L = [])) : B_L_isTrimmed_339 N m (nI n) (nI L.length) (nI n) (nI 1) live = some (nI 1, m) := by
  unfold B_L_isTrimmed_339
  have fin : B_L_isTrimmed_370 N m = some (nI 1, m) := by
    unfold B_L_isTrimmed_370 B_L_isTrimmed_375
    exact gd_t rfl
  by_cases c : lg_cmp live (l_shl (1 : Int64) (nI n) - (1 : Int64)) = (0 : Int32)
  · simp (disch := omega) only [zi_t, zi_f, bnd_t, zg_in, zx, nI_ltI, nI_leI, nI_eq, nI_add, pk_mul, pk_sub, mup_s, mup_c, mup_j, mrw_c, if_pos, if_neg, zm_1, zm_2, zm_3, zm_4, zm_5, zm_6, zm_7, zm_8, zm_9, zf_0, zf_1, zf_2, zf_3, zf_4, zf_5, zf_6, zf_7, zf_8, zf_9, zf_10, zf_14, zf_15, zf_16, zf_18, zf_19, zf_20, zf_24, zf_30, zf_31, zf_32, zf_33, zf_99, zf_100, zf_160, zf_200, zf_287, zf_288, zf_300, zf_1000, zf_1023, zf_1024, zf_1600, zf_3840, zf_25600, zf_36000, zf_1000000, zf_1000000000, zf_2000000000, zf_11560, za_1, za_2, za_4, za_5, za_6, za_7, za_8, za_9, za_10, za_11, za_12, za_14, za_15, za_22, za_23, za_25, za_26, za_27, za_28, za_29, za_30, za_31, za_32, za_33, za_34, za_35, za_41, za_42, za_43, za_44, za_45, za_46, za_47, za_48, za_49, za_61, za_62, za_63, za_64, za_65, za_70]
    have c : lg_cmp live (l_shl (1 : Int64) (nI n) - (1 : Int64)) = nI 0 := c
    rw [if_pos c]
    exact fin
  · have c2 : lg_cmp live (l_shl (1 : Int64) (nI n) - (1 : Int64)) ≠ nI 0 := c
    rcases hl with hl | ⟨rfl, rfl⟩
    · refine absurd ((lg_cmp_eq _ _).mpr (t6_ext (fun s hs => ?_))) c
      rw [hl s hs, t6_full n (by omega) s hs]
    · have e0 : nI ([] : ArL).length = nI 0 := rfl
      rw [e0]
      simp (disch := omega) only [zi_t, zi_f, bnd_t, zg_in, zx, nI_ltI, nI_leI, nI_eq, nI_add, pk_mul, pk_sub, mup_s, mup_c, mup_j, mrw_c, if_pos, if_neg, zm_1, zm_2, zm_3, zm_4, zm_5, zm_6, zm_7, zm_8, zm_9, zf_0, zf_1, zf_2, zf_3, zf_4, zf_5, zf_6, zf_7, zf_8, zf_9, zf_10, zf_14, zf_15, zf_16, zf_18, zf_19, zf_20, zf_24, zf_30, zf_31, zf_32, zf_33, zf_99, zf_100, zf_160, zf_200, zf_287, zf_288, zf_300, zf_1000, zf_1023, zf_1024, zf_1600, zf_3840, zf_25600, zf_36000, zf_1000000, zf_1000000000, zf_2000000000, zf_11560, za_1, za_2, za_4, za_5, za_6, za_7, za_8, za_9, za_10, za_11, za_12, za_14, za_15, za_22, za_23, za_25, za_26, za_27, za_28, za_29, za_30, za_31, za_32, za_33, za_34, za_35, za_41, za_42, za_43, za_44, za_45, za_46, za_47, za_48, za_49, za_61, za_62, za_63, za_64, za_65, za_70, c2]
      exact fin
theorem tr_309 (rec : Mem → Int32 → Int32 → Int32 → Int64 → Int32 → Int32 → Int64 → Int32 → Option (Int32 × Mem)) {x1 x2 x3 : Int32} {x10 x15 : Int64} {fd t k : Nat} (h1 : fd < 100) (h2 : t < 100) (h3 : k < 200) : B_L_isTrimmed_309 N rec m x1 x2 x3 (nI fd) x10 (nI k) (nI t) x15 (nI 1) = rec m x1 x2 x3 x15 (nI (if t < fd then fd else t + 1)) (nI 1) x10 (nI (k + 1)) := by
  unfold B_L_isTrimmed_309 B_L_isTrimmed_327
  by_cases c : t < fd
  · rw [if_pos c]
    simp (disch := omega) only [zi_t, zi_f, bnd_t, zg_in, zx, nI_ltI, nI_leI, nI_eq, nI_add, pk_mul, pk_sub, mup_s, mup_c, mup_j, mrw_c, if_pos, if_neg, zm_1, zm_2, zm_3, zm_4, zm_5, zm_6, zm_7, zm_8, zm_9, zf_0, zf_1, zf_2, zf_3, zf_4, zf_5, zf_6, zf_7, zf_8, zf_9, zf_10, zf_14, zf_15, zf_16, zf_18, zf_19, zf_20, zf_24, zf_30, zf_31, zf_32, zf_33, zf_99, zf_100, zf_160, zf_200, zf_287, zf_288, zf_300, zf_1000, zf_1023, zf_1024, zf_1600, zf_3840, zf_25600, zf_36000, zf_1000000, zf_1000000000, zf_2000000000, zf_11560, za_1, za_2, za_4, za_5, za_6, za_7, za_8, za_9, za_10, za_11, za_12, za_14, za_15, za_22, za_23, za_25, za_26, za_27, za_28, za_29, za_30, za_31, za_32, za_33, za_34, za_35, za_41, za_42, za_43, za_44, za_45, za_46, za_47, za_48, za_49, za_61, za_62, za_63, za_64, za_65, za_70]
  · rw [if_neg c]
    simp (disch := omega) only [zi_t, zi_f, bnd_t, zg_in, zx, nI_ltI, nI_leI, nI_eq, nI_add, pk_mul, pk_sub, mup_s, mup_c, mup_j, mrw_c, if_pos, if_neg, zm_1, zm_2, zm_3, zm_4, zm_5, zm_6, zm_7, zm_8, zm_9, zf_0, zf_1, zf_2, zf_3, zf_4, zf_5, zf_6, zf_7, zf_8, zf_9, zf_10, zf_14, zf_15, zf_16, zf_18, zf_19, zf_20, zf_24, zf_30, zf_31, zf_32, zf_33, zf_99, zf_100, zf_160, zf_200, zf_287, zf_288, zf_300, zf_1000, zf_1023, zf_1024, zf_1600, zf_3840, zf_25600, zf_36000, zf_1000000, zf_1000000000, zf_2000000000, zf_11560, za_1, za_2, za_4, za_5, za_6, za_7, za_8, za_9, za_10, za_11, za_12, za_14, za_15, za_22, za_23, za_25, za_26, za_27, za_28, za_29, za_30, za_31, za_32, za_33, za_34, za_35, za_41, za_42, za_43, za_44, za_45, za_46, za_47, za_48, za_49, za_61, za_62, za_63, za_64, za_65, za_70]
theorem tr_167 (hN : 40000 < N) (hV : InV Ms w ls) (hC : InC m Ms w ls) (gA : Ms[i]? = some (n, f, L)) (hB : BfsM n L) {live : Int64} (hl : (∀ s, s < 64 → t6 live s = decide (s < n)) ∨ (n = 1 ∧ L = [])) : L_L_isTrimmed_167 N N m (nI i) (nI n) (nI L.length) (-1 : Int64) (nI 1) (nI 1) live (nI 0) = some (nI 1, m) := by
  obtain ⟨v1, v2, v3, v4, v5, v6, v7⟩ := hV.2.1 _ (List.mem_of_getElem? gA)
  have v1 : 1 ≤ n := v1
  have v2 : n ≤ 32 := v2
  have v3 : L.length ≤ 160 := v3
  have v4 : Srt L := v4
  have v5 : DOK n L := v5
  have early : ∀ (k : Nat) (q q' : Nat × Nat), L[k]? = some q → q' ∈ L → q'.1 < q.1 → ∃ j, j < k ∧ L[j]? = some q' := by
    intro k q q' hk hq' hlt
    obtain ⟨j, hj⟩ := List.getElem?_of_mem hq'
    refine ⟨j, ?_, hj⟩
    rcases Nat.lt_trichotomy j k with c | c | c
    · exact c
    · rw [c, hk] at hj
      rw [Option.some.inj hj] at hlt
      omega
    · have := srt_idx v4 c hk hj
      omega
  refine loopF (σ := Int64 × Nat) (fun g s k => L_L_isTrimmed_167 N g m (nI i) (nI n) (nI L.length) s.1 (nI s.2) (nI 1) live (nI k)) L.length (fun k s => ((k = 0 ∧ s.1 = (-1 : Int64)) ∨ ∃ q, 1 ≤ k ∧ L[k - 1]? = some q ∧ V6 s.1 (nwA q.1)) ∧ 1 ≤ s.2 ∧ s.2 ≤ n ∧ ∀ j q, j < k → L[j]? = some q → too q.1 < s.2) (fun o => o = some (nI 1, m)) ?_ ?_ N 0 ((-1 : Int64), 1) (Nat.zero_le _) ⟨Or.inl ⟨rfl, rfl⟩, Nat.le_refl _, v1, fun j q hj => absurd hj (Nat.not_lt_zero _)⟩ (by omega)
  · rintro g k ⟨bf, fd⟩ hk ⟨h1, h2, h3, h4⟩
    have h1 : (k = 0 ∧ bf = (-1 : Int64)) ∨ ∃ q, 1 ≤ k ∧ L[k - 1]? = some q ∧ V6 bf (nwA q.1) := h1
    have h2 : 1 ≤ fd := h2
    have h3 : fd ≤ n := h3
    have h4 : ∀ j q, j < k → L[j]? = some q → too q.1 < fd := h4
    obtain ⟨q, hq⟩ : ∃ q, L[k]? = some q := ⟨_, List.getElem?_eq_getElem hk⟩
    have hqm := List.mem_of_getElem? hq
    obtain ⟨b1, b2, b3, b4, b5, b6⟩ := v5 q hqm
    have a0 : F_X7_arc N m (nI i) (nI k) (nI 0) = some (.inl (nI (fr q.1)), m) := as_arc hV hC gA hq (k := 0) (by omega)
    have a1 : F_X7_arc N m (nI i) (nI k) (nI 1) = some (.inl (nI (upr q.1)), m) := as_arc hV hC gA hq (k := 1) (by omega)
    have a2 : F_X7_arc N m (nI i) (nI k) (nI 2) = some (.inl (nI (lwr q.1)), m) := as_arc hV hC gA hq (k := 2) (by omega)
    have a3 : F_X7_arc N m (nI i) (nI k) (nI 3) = some (.inl (nI q.2), m) := as_arc hV hC gA hq (k := 3) (by omega)
    have a4 : F_X7_arc N m (nI i) (nI k) (nI 4) = some (.inl (nI (too q.1)), m) := as_arc hV hC gA hq (k := 4) (by omega)
    have hnow := v6_arc (p := q.1) (by omega) (by omega)
    obtain ⟨y, hy⟩ : ∃ y, y = (((((nI (fr q.1)).toInt64 * (16 : Int64)) + (nI (upr q.1)).toInt64) * (16 : Int64)) + (nI (lwr q.1)).toInt64) * (64 : Int64) + (nI (too q.1)).toInt64 := ⟨_, rfl⟩
    rw [← hy] at hnow
    have hcmp : ¬ lg_cmp y bf ≤ nI 0 := by
      rcases h1 with ⟨_, h1⟩ | ⟨q', h0, h1, h1'⟩
      · rw [h1]; exact v6_gtM hnow
      · have hlt := srt_idx v4 (show k - 1 < k by omega) h1 hq
        have c1 := (v5 q' (List.mem_of_getElem? h1)).2.2.1
        exact v6_gt hnow h1' (nw_lt hlt (by omega) (by omega))
    have hfr : fr q.1 < fd := by
      rcases Nat.eq_zero_or_pos (fr q.1) with e | e
      · omega
      · obtain ⟨q', c1, c2, c3⟩ := hB.1 (fr q.1) e b2
        have hlt : q'.1 < q.1 := by
          have c2 : q'.1 / 262144 < q.1 / 262144 := c2
          omega
        obtain ⟨j, j1, j2⟩ := early k q q' hq c1 hlt
        have := h4 j q' j1 j2
        omega
    have hto : too q.1 ≤ fd := by
      rcases Nat.lt_or_ge (too q.1) 2 with e | e
      · omega
      · obtain ⟨q', c1, c2, c3⟩ := hB.2 q hqm e
        have hlt : q'.1 < q.1 := by
          rcases c3 with c3 | ⟨c3, c4⟩
          · have c3 : q'.1 / 262144 < q.1 / 262144 := c3
            omega
          · have c2 : q'.1 % 1024 = q.1 % 1024 - 1 := c2
            have e : 2 ≤ q.1 % 1024 := e
            have e1 : q.1 / 1024 = (fr q.1 * 16 + upr q.1) * 16 + lwr q.1 := by
              have := nw_e q.1
              have h : nwA q.1 = ((fr q.1 * 16 + upr q.1) * 16 + lwr q.1) * 64 + too q.1 := rfl
              have h' : too q.1 = q.1 % 1024 := rfl
              omega
            have e2 : q'.1 / 1024 = (fr q'.1 * 16 + upr q'.1) * 16 + lwr q'.1 := by
              have := nw_e q'.1
              have h : nwA q'.1 = ((fr q'.1 * 16 + upr q'.1) * 16 + lwr q'.1) * 64 + too q'.1 := rfl
              have h' : too q'.1 = q'.1 % 1024 := rfl
              omega
            rw [c3] at e2
            have e3 : q'.1 / 1024 ≤ q.1 / 1024 := by rw [e1, e2]; generalize fr q.1 = A at *; generalize upr q.1 = B at *; generalize upr q'.1 = B' at *; generalize lwr q.1 = C at *; generalize lwr q'.1 = C' at *; omega
            omega
        obtain ⟨j, j1, j2⟩ := early k q q' hq c1 hlt
        have := h4 j q' j1 j2
        omega
    refine Or.inl ⟨(y, if too q.1 < fd then fd else too q.1 + 1), ⟨Or.inr ⟨q, by omega, by rw [Nat.add_sub_cancel]; exact hq, hnow⟩, ?_, ?_, fun j q' hj hq' => ?_⟩, ?_⟩
    · show 1 ≤ (if too q.1 < fd then fd else too q.1 + 1)
      split <;> omega
    · show (if too q.1 < fd then fd else too q.1 + 1) ≤ n
      split <;> omega
    · show too q'.1 < (if too q.1 < fd then fd else too q.1 + 1)
      by_cases e : j = k
      · rw [e, hq] at hq'
        rw [← Option.some.inj hq']
        split <;> omega
      · have := h4 j q' (by omega) hq'
        split <;> omega
    · show S_L_isTrimmed_167 N (L_L_isTrimmed_167 N g) m (nI i) (nI n) (nI L.length) bf (nI fd) (nI 1) live (nI k) = _
      unfold S_L_isTrimmed_167
      simp (disch := omega) only [zi_t, zi_f, bnd_t, zg_in, zx, nI_ltI, nI_leI, nI_eq, nI_add, pk_mul, pk_sub, mup_s, mup_c, mup_j, mrw_c, if_pos, if_neg, zm_1, zm_2, zm_3, zm_4, zm_5, zm_6, zm_7, zm_8, zm_9, zf_0, zf_1, zf_2, zf_3, zf_4, zf_5, zf_6, zf_7, zf_8, zf_9, zf_10, zf_14, zf_15, zf_16, zf_18, zf_19, zf_20, zf_24, zf_30, zf_31, zf_32, zf_33, zf_99, zf_100, zf_160, zf_200, zf_287, zf_288, zf_300, zf_1000, zf_1023, zf_1024, zf_1600, zf_3840, zf_25600, zf_36000, zf_1000000, zf_1000000000, zf_2000000000, zf_11560, za_1, za_2, za_4, za_5, za_6, za_7, za_8, za_9, za_10, za_11, za_12, za_14, za_15, za_22, za_23, za_25, za_26, za_27, za_28, za_29, za_30, za_31, za_32, za_33, za_34, za_35, za_41, za_42, za_43, za_44, za_45, za_46, za_47, za_48, za_49, za_61, za_62, za_63, za_64, za_65, za_70]
      rw [clL_t a0, clL_t a4, clL_t a1, clL_t a2, ← hy]
      simp (disch := omega) only [zi_t, zi_f, bnd_t, zg_in, zx, nI_ltI, nI_leI, nI_eq, nI_add, pk_mul, pk_sub, mup_s, mup_c, mup_j, mrw_c, if_pos, if_neg, zm_1, zm_2, zm_3, zm_4, zm_5, zm_6, zm_7, zm_8, zm_9, zf_0, zf_1, zf_2, zf_3, zf_4, zf_5, zf_6, zf_7, zf_8, zf_9, zf_10, zf_14, zf_15, zf_16, zf_18, zf_19, zf_20, zf_24, zf_30, zf_31, zf_32, zf_33, zf_99, zf_100, zf_160, zf_200, zf_287, zf_288, zf_300, zf_1000, zf_1023, zf_1024, zf_1600, zf_3840, zf_25600, zf_36000, zf_1000000, zf_1000000000, zf_2000000000, zf_11560, za_1, za_2, za_4, za_5, za_6, za_7, za_8, za_9, za_10, za_11, za_12, za_14, za_15, za_22, za_23, za_25, za_26, za_27, za_28, za_29, za_30, za_31, za_32, za_33, za_34, za_35, za_41, za_42, za_43, za_44, za_45, za_46, za_47, za_48, za_49, za_61, za_62, za_63, za_64, za_65, za_70, eq_false hcmp]
      rw [clL_t a1]
      simp (disch := omega) only [zi_t, zi_f, bnd_t, zg_in, zx, nI_ltI, nI_leI, nI_eq, nI_add, pk_mul, pk_sub, mup_s, mup_c, mup_j, mrw_c, if_pos, if_neg, zm_1, zm_2, zm_3, zm_4, zm_5, zm_6, zm_7, zm_8, zm_9, zf_0, zf_1, zf_2, zf_3, zf_4, zf_5, zf_6, zf_7, zf_8, zf_9, zf_10, zf_14, zf_15, zf_16, zf_18, zf_19, zf_20, zf_24, zf_30, zf_31, zf_32, zf_33, zf_99, zf_100, zf_160, zf_200, zf_287, zf_288, zf_300, zf_1000, zf_1023, zf_1024, zf_1600, zf_3840, zf_25600, zf_36000, zf_1000000, zf_1000000000, zf_2000000000, zf_11560, za_1, za_2, za_4, za_5, za_6, za_7, za_8, za_9, za_10, za_11, za_12, za_14, za_15, za_22, za_23, za_25, za_26, za_27, za_28, za_29, za_30, za_31, za_32, za_33, za_34, za_35, za_41, za_42, za_43, za_44, za_45, za_46, za_47, za_48, za_49, za_61, za_62, za_63, za_64, za_65, za_70]
      rw [clL_t a2]
      simp (disch := omega) only [zi_t, zi_f, bnd_t, zg_in, zx, nI_ltI, nI_leI, nI_eq, nI_add, pk_mul, pk_sub, mup_s, mup_c, mup_j, mrw_c, if_pos, if_neg, zm_1, zm_2, zm_3, zm_4, zm_5, zm_6, zm_7, zm_8, zm_9, zf_0, zf_1, zf_2, zf_3, zf_4, zf_5, zf_6, zf_7, zf_8, zf_9, zf_10, zf_14, zf_15, zf_16, zf_18, zf_19, zf_20, zf_24, zf_30, zf_31, zf_32, zf_33, zf_99, zf_100, zf_160, zf_200, zf_287, zf_288, zf_300, zf_1000, zf_1023, zf_1024, zf_1600, zf_3840, zf_25600, zf_36000, zf_1000000, zf_1000000000, zf_2000000000, zf_11560, za_1, za_2, za_4, za_5, za_6, za_7, za_8, za_9, za_10, za_11, za_12, za_14, za_15, za_22, za_23, za_25, za_26, za_27, za_28, za_29, za_30, za_31, za_32, za_33, za_34, za_35, za_41, za_42, za_43, za_44, za_45, za_46, za_47, za_48, za_49, za_61, za_62, za_63, za_64, za_65, za_70]
      rw [clL_t a3]
      simp (disch := omega) only [zi_t, zi_f, bnd_t, zg_in, zx, nI_ltI, nI_leI, nI_eq, nI_add, pk_mul, pk_sub, mup_s, mup_c, mup_j, mrw_c, if_pos, if_neg, zm_1, zm_2, zm_3, zm_4, zm_5, zm_6, zm_7, zm_8, zm_9, zf_0, zf_1, zf_2, zf_3, zf_4, zf_5, zf_6, zf_7, zf_8, zf_9, zf_10, zf_14, zf_15, zf_16, zf_18, zf_19, zf_20, zf_24, zf_30, zf_31, zf_32, zf_33, zf_99, zf_100, zf_160, zf_200, zf_287, zf_288, zf_300, zf_1000, zf_1023, zf_1024, zf_1600, zf_3840, zf_25600, zf_36000, zf_1000000, zf_1000000000, zf_2000000000, zf_11560, za_1, za_2, za_4, za_5, za_6, za_7, za_8, za_9, za_10, za_11, za_12, za_14, za_15, za_22, za_23, za_25, za_26, za_27, za_28, za_29, za_30, za_31, za_32, za_33, za_34, za_35, za_41, za_42, za_43, za_44, za_45, za_46, za_47, za_48, za_49, za_61, za_62, za_63, za_64, za_65, za_70]
      exact tr_309 _ (by omega) (by omega) (by omega)
  · rintro g ⟨bf, fd⟩ ⟨h1, h2, h3, h4⟩
    have h3 : fd ≤ n := h3
    have e : fd = n := by
      rcases Nat.lt_or_ge fd n with c | c
      · have h2 : 1 ≤ fd := h2
        obtain ⟨q, c1, c2, c3⟩ := hB.1 fd h2 c
        obtain ⟨j, hj⟩ := List.getElem?_of_mem c1
        have : too q.1 < fd := h4 j q (List.getElem?_eq_some_iff.mp hj).1 hj
        omega
      · omega
    subst e
    show S_L_isTrimmed_167 N (L_L_isTrimmed_167 N g) m (nI i) (nI fd) (nI L.length) bf (nI fd) (nI 1) live (nI L.length) = _
    unfold S_L_isTrimmed_167
    simp (disch := omega) only [zi_t, zi_f, bnd_t, zg_in, zx, nI_ltI, nI_leI, nI_eq, nI_add, pk_mul, pk_sub, mup_s, mup_c, mup_j, mrw_c, if_pos, if_neg, zm_1, zm_2, zm_3, zm_4, zm_5, zm_6, zm_7, zm_8, zm_9, zf_0, zf_1, zf_2, zf_3, zf_4, zf_5, zf_6, zf_7, zf_8, zf_9, zf_10, zf_14, zf_15, zf_16, zf_18, zf_19, zf_20, zf_24, zf_30, zf_31, zf_32, zf_33, zf_99, zf_100, zf_160, zf_200, zf_287, zf_288, zf_300, zf_1000, zf_1023, zf_1024, zf_1600, zf_3840, zf_25600, zf_36000, zf_1000000, zf_1000000000, zf_2000000000, zf_11560, za_1, za_2, za_4, za_5, za_6, za_7, za_8, za_9, za_10, za_11, za_12, za_14, za_15, za_22, za_23, za_25, za_26, za_27, za_28, za_29, za_30, za_31, za_32, za_33, za_34, za_35, za_41, za_42, za_43, za_44, za_45, za_46, za_47, za_48, za_49, za_61, za_62, za_63, za_64, za_65, za_70]
    exact tr_339 v2 v1 v3 hl
end TRIM
