section TRIM2
variable {N : Nat} {Ms : List Ma} {w : List Nat} {ls : Ls} {i n : Nat} {f : Nat → Bool} {L : ArL} {m : Mem}
/-- states that lead to an end -/
def CoR (n : Nat) (f : Nat → Bool) (L : ArL) (s : Nat) : Prop := s < n ∧ ∃ e, e < n ∧ f e = true ∧ Rc (aR L) s e
theorem tr_109 (hN : 40000 < N) (hV : InV Ms w ls) (hC : InC m Ms w ls) (gA : Ms[i]? = some (n, f, L)) (rec : Mem → Int32 → Int32 → Int32 → Int64 → Int32 → Int32 → Int64 → Int32 → Option (Int32 × Mem)) {x6 : Int64} {x8 x9 : Int32} {t : Nat} {x : Int64} (hs : ∀ s, s < 64 → t6 x s = true → CoR n f L s) :
    ∃ y, (∀ s, s < 64 → t6 y s = true → CoR n f L s) ∧ (∀ s, t6 x s = true → t6 y s = true) ∧ (∀ q, q ∈ L → t6 x (too q.1) = true → t6 y (fr q.1) = true) ∧ (∀ s, s < 64 → t6 y s = true → t6 x s = true ∨ ∃ q, q ∈ L ∧ fr q.1 = s ∧ t6 y (too q.1) = true) ∧
      L_L_isTrimmed_109 N rec N m (nI i) (nI n) (nI L.length) x6 x8 x9 x (nI t) (nI 0) = rec m (nI i) (nI n) (nI L.length) x6 x8 x9 y (nI (t + 1)) := by
  obtain ⟨v1, v2, v3, v4, v5, v6, v7⟩ := hV.2.1 _ (List.mem_of_getElem? gA)
  have v2 : n ≤ 32 := v2
  have v3 : L.length ≤ 160 := v3
  have v5 : DOK n L := v5
  refine loopF (σ := Int64) (fun g y k => L_L_isTrimmed_109 N rec g m (nI i) (nI n) (nI L.length) x6 x8 x9 y (nI t) (nI k)) L.length (fun k y => (∀ s, s < 64 → t6 y s = true → CoR n f L s) ∧ (∀ s, t6 x s = true → t6 y s = true) ∧ (∀ j q, j < k → L[j]? = some q → t6 x (too q.1) = true → t6 y (fr q.1) = true) ∧ (∀ s, s < 64 → t6 y s = true → t6 x s = true ∨ ∃ q, q ∈ L ∧ fr q.1 = s ∧ t6 y (too q.1) = true)) (fun o => ∃ y, (∀ s, s < 64 → t6 y s = true → CoR n f L s) ∧ (∀ s, t6 x s = true → t6 y s = true) ∧ (∀ q, q ∈ L → t6 x (too q.1) = true → t6 y (fr q.1) = true) ∧ (∀ s, s < 64 → t6 y s = true → t6 x s = true ∨ ∃ q, q ∈ L ∧ fr q.1 = s ∧ t6 y (too q.1) = true) ∧ o = rec m (nI i) (nI n) (nI L.length) x6 x8 x9 y (nI (t + 1))) ?_ ?_ N 0 x (Nat.zero_le _) ⟨hs, fun _ h => h, fun j q hj => absurd hj (Nat.not_lt_zero _), fun s _ h => Or.inl h⟩ (by omega)
  · rintro g k y hk ⟨h1, h2, h3, h4⟩
    obtain ⟨q, hq⟩ : ∃ q, L[k]? = some q := ⟨_, List.getElem?_eq_getElem hk⟩
    have hqm := List.mem_of_getElem? hq
    obtain ⟨b1, b2, b3, b4, b5, b6⟩ := v5 q hqm
    have a0 : F_X7_arc N m (nI i) (nI k) (nI 0) = some (.inl (nI (fr q.1)), m) := as_arc hV hC gA hq (k := 0) (by omega)
    have a4 : F_X7_arc N m (nI i) (nI k) (nI 4) = some (.inl (nI (too q.1)), m) := as_arc hV hC gA hq (k := 4) (by omega)
    have hbit := bit6_shr (x := y) (s := too q.1) (by omega)
    have hc : (lg_cmp (l_shr y (nI (too q.1)) &&& (1 : Int64)) (1 : Int64) = (0 : Int32)) = (t6 y (too q.1) = true) := by
      rw [← hbit]; exact propext (lg_cmp_eq _ _)
    have hc : (lg_cmp (l_shr y (nI (too q.1)) &&& (1 : Int64)) (1 : Int64) = nI 0) = (t6 y (too q.1) = true) := hc
    cases e : t6 y (too q.1) with
    | true =>
      rw [e] at hc
      refine Or.inl ⟨y ||| l_shl (1 : Int64) (nI (fr q.1)), ⟨fun s hs' h => ?_, fun s h => ?_, fun j q' hj hq' hx => ?_, fun s hs' h => ?_⟩, ?_⟩
      · rw [t6_or, Bool.or_eq_true, t6_shl _ (by omega) s hs', decide_eq_true_iff] at h
        rcases h with h | h
        · exact h1 s hs' h
        · obtain ⟨c1, e', c2, c3, c4⟩ := h1 (too q.1) (by omega) e
          rw [h]
          exact ⟨b2, e', c2, c3, Rc.hd ⟨q, hqm, rfl, rfl⟩ c4⟩
      · rw [t6_or, h2 s h]; rfl
      · by_cases ej : j = k
        · rw [ej, hq] at hq'
          rw [← Option.some.inj hq', t6_or, t6_shl _ (by omega) _ (by omega), decide_eq_true rfl, Bool.or_true]
        · rw [t6_or, h3 j q' (by omega) hq' hx]; rfl
      · rw [t6_or, Bool.or_eq_true, t6_shl _ (by omega) s hs', decide_eq_true_iff] at h
        rcases h with h | h
        · rcases h4 s hs' h with h | ⟨q', c1, c2, c3⟩
          · exact Or.inl h
          · exact Or.inr ⟨q', c1, c2, by rw [t6_or, c3]; rfl⟩
        · exact Or.inr ⟨q, hqm, h.symm, by rw [t6_or, e]; rfl⟩
      · show S_L_isTrimmed_109 N rec (L_L_isTrimmed_109 N rec g) m (nI i) (nI n) (nI L.length) x6 x8 x9 y (nI t) (nI k) = _
        unfold S_L_isTrimmed_109
        simp (disch := omega) only [zi_t, zi_f, bnd_t, zg_in, zx, nI_ltI, nI_leI, nI_eq, nI_add, pk_mul, pk_sub, mup_s, mup_c, mup_j, mrw_c, if_pos, if_neg, zm_1, zm_2, zm_3, zm_4, zm_5, zm_6, zm_7, zm_8, zm_9, zf_0, zf_1, zf_2, zf_3, zf_4, zf_5, zf_6, zf_7, zf_8, zf_9, zf_10, zf_14, zf_15, zf_16, zf_18, zf_19, zf_20, zf_24, zf_30, zf_31, zf_32, zf_33, zf_99, zf_100, zf_160, zf_200, zf_287, zf_288, zf_300, zf_1000, zf_1023, zf_1024, zf_1600, zf_3840, zf_25600, zf_36000, zf_1000000, zf_1000000000, zf_2000000000, zf_11560, za_1, za_2, za_4, za_5, za_6, za_7, za_8, za_9, za_10, za_11, za_12, za_14, za_15, za_22, za_23, za_25, za_26, za_27, za_28, za_29, za_30, za_31, za_32, za_33, za_34, za_35, za_41, za_42, za_43, za_44, za_45, za_46, za_47, za_48, za_49, za_61, za_62, za_63, za_64, za_65, za_70]
        rw [clL_t a4]
        simp (disch := omega) only [zi_t, zi_f, bnd_t, zg_in, zx, nI_ltI, nI_leI, nI_eq, nI_add, pk_mul, pk_sub, mup_s, mup_c, mup_j, mrw_c, if_pos, if_neg, zm_1, zm_2, zm_3, zm_4, zm_5, zm_6, zm_7, zm_8, zm_9, zf_0, zf_1, zf_2, zf_3, zf_4, zf_5, zf_6, zf_7, zf_8, zf_9, zf_10, zf_14, zf_15, zf_16, zf_18, zf_19, zf_20, zf_24, zf_30, zf_31, zf_32, zf_33, zf_99, zf_100, zf_160, zf_200, zf_287, zf_288, zf_300, zf_1000, zf_1023, zf_1024, zf_1600, zf_3840, zf_25600, zf_36000, zf_1000000, zf_1000000000, zf_2000000000, zf_11560, za_1, za_2, za_4, za_5, za_6, za_7, za_8, za_9, za_10, za_11, za_12, za_14, za_15, za_22, za_23, za_25, za_26, za_27, za_28, za_29, za_30, za_31, za_32, za_33, za_34, za_35, za_41, za_42, za_43, za_44, za_45, za_46, za_47, za_48, za_49, za_61, za_62, za_63, za_64, za_65, za_70, hc]
        rw [clL_t a0]
        unfold B_L_isTrimmed_149
        simp (disch := omega) only [zi_t, zi_f, bnd_t, zg_in, zx, nI_ltI, nI_leI, nI_eq, nI_add, pk_mul, pk_sub, mup_s, mup_c, mup_j, mrw_c, if_pos, if_neg, zm_1, zm_2, zm_3, zm_4, zm_5, zm_6, zm_7, zm_8, zm_9, zf_0, zf_1, zf_2, zf_3, zf_4, zf_5, zf_6, zf_7, zf_8, zf_9, zf_10, zf_14, zf_15, zf_16, zf_18, zf_19, zf_20, zf_24, zf_30, zf_31, zf_32, zf_33, zf_99, zf_100, zf_160, zf_200, zf_287, zf_288, zf_300, zf_1000, zf_1023, zf_1024, zf_1600, zf_3840, zf_25600, zf_36000, zf_1000000, zf_1000000000, zf_2000000000, zf_11560, za_1, za_2, za_4, za_5, za_6, za_7, za_8, za_9, za_10, za_11, za_12, za_14, za_15, za_22, za_23, za_25, za_26, za_27, za_28, za_29, za_30, za_31, za_32, za_33, za_34, za_35, za_41, za_42, za_43, za_44, za_45, za_46, za_47, za_48, za_49, za_61, za_62, za_63, za_64, za_65, za_70]
    | false =>
      rw [e] at hc
      have hc2 : (lg_cmp (l_shr y (nI (too q.1)) &&& (1 : Int64)) (1 : Int64) = nI 0) = False := by rw [hc]; exact eq_false (by simp)
      have ey : y ||| (0 : Int64) = y := t6_ext (fun s hs => by rw [t6_or, t6_0, Bool.or_false])
      refine Or.inl ⟨y, ⟨h1, h2, fun j q' hj hq' hx => ?_, h4⟩, ?_⟩
      · by_cases ej : j = k
        · rw [ej, hq] at hq'
          rw [← Option.some.inj hq'] at hx
          have := h2 _ hx
          rw [e] at this; cases this
        · exact h3 j q' (by omega) hq' hx
      · show S_L_isTrimmed_109 N rec (L_L_isTrimmed_109 N rec g) m (nI i) (nI n) (nI L.length) x6 x8 x9 y (nI t) (nI k) = _
        unfold S_L_isTrimmed_109
        simp (disch := omega) only [zi_t, zi_f, bnd_t, zg_in, zx, nI_ltI, nI_leI, nI_eq, nI_add, pk_mul, pk_sub, mup_s, mup_c, mup_j, mrw_c, if_pos, if_neg, zm_1, zm_2, zm_3, zm_4, zm_5, zm_6, zm_7, zm_8, zm_9, zf_0, zf_1, zf_2, zf_3, zf_4, zf_5, zf_6, zf_7, zf_8, zf_9, zf_10, zf_14, zf_15, zf_16, zf_18, zf_19, zf_20, zf_24, zf_30, zf_31, zf_32, zf_33, zf_99, zf_100, zf_160, zf_200, zf_287, zf_288, zf_300, zf_1000, zf_1023, zf_1024, zf_1600, zf_3840, zf_25600, zf_36000, zf_1000000, zf_1000000000, zf_2000000000, zf_11560, za_1, za_2, za_4, za_5, za_6, za_7, za_8, za_9, za_10, za_11, za_12, za_14, za_15, za_22, za_23, za_25, za_26, za_27, za_28, za_29, za_30, za_31, za_32, za_33, za_34, za_35, za_41, za_42, za_43, za_44, za_45, za_46, za_47, za_48, za_49, za_61, za_62, za_63, za_64, za_65, za_70]
        rw [clL_t a4]
        simp (disch := omega) only [zi_t, zi_f, bnd_t, zg_in, zx, nI_ltI, nI_leI, nI_eq, nI_add, pk_mul, pk_sub, mup_s, mup_c, mup_j, mrw_c, if_pos, if_neg, zm_1, zm_2, zm_3, zm_4, zm_5, zm_6, zm_7, zm_8, zm_9, zf_0, zf_1, zf_2, zf_3, zf_4, zf_5, zf_6, zf_7, zf_8, zf_9, zf_10, zf_14, zf_15, zf_16, zf_18, zf_19, zf_20, zf_24, zf_30, zf_31, zf_32, zf_33, zf_99, zf_100, zf_160, zf_200, zf_287, zf_288, zf_300, zf_1000, zf_1023, zf_1024, zf_1600, zf_3840, zf_25600, zf_36000, zf_1000000, zf_1000000000, zf_2000000000, zf_11560, za_1, za_2, za_4, za_5, za_6, za_7, za_8, za_9, za_10, za_11, za_12, za_14, za_15, za_22, za_23, za_25, za_26, za_27, za_28, za_29, za_30, za_31, za_32, za_33, za_34, za_35, za_41, za_42, za_43, za_44, za_45, za_46, za_47, za_48, za_49, za_61, za_62, za_63, za_64, za_65, za_70, hc2]
        unfold B_L_isTrimmed_149
        rw [ey]
        simp (disch := omega) only [zi_t, zi_f, bnd_t, zg_in, zx, nI_ltI, nI_leI, nI_eq, nI_add, pk_mul, pk_sub, mup_s, mup_c, mup_j, mrw_c, if_pos, if_neg, zm_1, zm_2, zm_3, zm_4, zm_5, zm_6, zm_7, zm_8, zm_9, zf_0, zf_1, zf_2, zf_3, zf_4, zf_5, zf_6, zf_7, zf_8, zf_9, zf_10, zf_14, zf_15, zf_16, zf_18, zf_19, zf_20, zf_24, zf_30, zf_31, zf_32, zf_33, zf_99, zf_100, zf_160, zf_200, zf_287, zf_288, zf_300, zf_1000, zf_1023, zf_1024, zf_1600, zf_3840, zf_25600, zf_36000, zf_1000000, zf_1000000000, zf_2000000000, zf_11560, za_1, za_2, za_4, za_5, za_6, za_7, za_8, za_9, za_10, za_11, za_12, za_14, za_15, za_22, za_23, za_25, za_26, za_27, za_28, za_29, za_30, za_31, za_32, za_33, za_34, za_35, za_41, za_42, za_43, za_44, za_45, za_46, za_47, za_48, za_49, za_61, za_62, za_63, za_64, za_65, za_70]
  · rintro g y ⟨h1, h2, h3, h4⟩
    refine ⟨y, h1, h2, fun q hq => ?_, h4, ?_⟩
    · obtain ⟨j, hj⟩ := List.getElem?_of_mem hq
      exact h3 j q (List.getElem?_eq_some_iff.mp hj).1 hj
    · show S_L_isTrimmed_109 N rec (L_L_isTrimmed_109 N rec g) m (nI i) (nI n) (nI L.length) x6 x8 x9 y (nI t) (nI L.length) = _
      unfold S_L_isTrimmed_109
      simp (disch := omega) only [zi_t, zi_f, bnd_t, zg_in, zx, nI_ltI, nI_leI, nI_eq, nI_add, pk_mul, pk_sub, mup_s, mup_c, mup_j, mrw_c, if_pos, if_neg, zm_1, zm_2, zm_3, zm_4, zm_5, zm_6, zm_7, zm_8, zm_9, zf_0, zf_1, zf_2, zf_3, zf_4, zf_5, zf_6, zf_7, zf_8, zf_9, zf_10, zf_14, zf_15, zf_16, zf_18, zf_19, zf_20, zf_24, zf_30, zf_31, zf_32, zf_33, zf_99, zf_100, zf_160, zf_200, zf_287, zf_288, zf_300, zf_1000, zf_1023, zf_1024, zf_1600, zf_3840, zf_25600, zf_36000, zf_1000000, zf_1000000000, zf_2000000000, zf_11560, za_1, za_2, za_4, za_5, za_6, za_7, za_8, za_9, za_10, za_11, za_12, za_14, za_15, za_22, za_23, za_25, za_26, za_27, za_28, za_29, za_30, za_31, za_32, za_33, za_34, za_35, za_41, za_42, za_43, za_44, za_45, za_46, za_47, za_48, za_49, za_61, za_62, za_63, za_64, za_65, za_70]
theorem tr_100 (hN : 40000 < N) (hV : InV Ms w ls) (hC : InC m Ms w ls) (gA : Ms[i]? = some (n, f, L)) (hT : MdM (n, f, L)) {x : Int64} (hx : ∀ s, s < 64 → t6 x s = (decide (s < n) && f s)) : L_L_isTrimmed_100 N N m (nI i) (nI n) (nI L.length) (-1 : Int64) (nI 1) (nI 1) x (nI 0) = some (nI 1, m) := by
  obtain ⟨v1, v2, v3, v4, v5, v6, v7⟩ := hV.2.1 _ (List.mem_of_getElem? gA)
  have v1 : 1 ≤ n := v1
  have v2 : n ≤ 32 := v2
  have v3 : L.length ≤ 160 := v3
  have v5 : DOK n L := v5
  obtain ⟨hB, hco⟩ := md_tf hT
  have hB : BfsM n L := hB
  have hco : (n = 1 ∧ L = []) ∨ ∀ i, i < n → ∃ e, e < n ∧ f e = true ∧ Rc (aR L) i e := hco
  refine loopF (σ := Int64) (fun g y t => L_L_isTrimmed_100 N g m (nI i) (nI n) (nI L.length) (-1 : Int64) (nI 1) (nI 1) y (nI t)) n (fun t y => (∀ s, s < 64 → t6 y s = true → CoR n f L s) ∧ (∀ s, s < n → f s = true → t6 y s = true) ∧ ((∀ q, q ∈ L → t6 y (too q.1) = true → t6 y (fr q.1) = true) ∨ t ≤ cnt (t6 y) n)) (fun o => o = some (nI 1, m)) ?_ ?_ N 0 x (Nat.zero_le _) ⟨fun s hs h => ?_, fun s hs h => ?_, Or.inr (Nat.zero_le _)⟩ (by omega)
  · rintro g t y ht ⟨h1, h2, h3⟩
    obtain ⟨y2, k1, k2, k3, k4, k5⟩ := tr_109 hN hV hC gA (L_L_isTrimmed_100 N g) (x6 := (-1 : Int64)) (x8 := nI 1) (x9 := nI 1) (t := t) h1
    refine Or.inl ⟨y2, ⟨k1, fun s hs h => k2 s (h2 s hs h), ?_⟩, ?_⟩
    · by_cases hcl : ∀ q, q ∈ L → t6 y (too q.1) = true → t6 y (fr q.1) = true
      · left
        have hb : ∀ s, s < 64 → t6 y2 s = true → t6 y s = true := by
          intro s hs h
          obtain ⟨c1, e, c2, c3, c4⟩ := k1 s hs h
          have hR := c4.rev.cl (S := fun a => t6 y a = true) (h2 e c2 c3) (fun a b ha ⟨q, q1, q2, q3⟩ => by
            have := hcl q q1 (by rw [q3]; exact ha)
            rw [q2] at this
            exact this)
          exact hR
        intro q hq h
        obtain ⟨b1, b2, b3, b4, b5, b6⟩ := v5 q hq
        exact k2 _ (hcl q hq (hb _ (by omega) h))
      · right
        have ⟨q, q1, q2, q3⟩ : ∃ q, q ∈ L ∧ t6 y (too q.1) = true ∧ t6 y (fr q.1) = false := by
          refine Classical.byContradiction fun c => hcl (fun q hq h => ?_)
          cases e : t6 y (fr q.1) with
          | true => rfl
          | false => exact absurd ⟨q, hq, h, e⟩ c
        have hlt := cnt_lt (a := t6 y) (b := t6 y2) k2 (k3 q q1 q2) q3 n (v5 q q1).2.1
        rcases h3 with h3 | h3
        · exact absurd h3 hcl
        · omega
    · show S_L_isTrimmed_100 N (L_L_isTrimmed_100 N g) m (nI i) (nI n) (nI L.length) (-1 : Int64) (nI 1) (nI 1) y (nI t) = _
      unfold S_L_isTrimmed_100
      simp (disch := omega) only [zi_t, zi_f, bnd_t, zg_in, zx, nI_ltI, nI_leI, nI_eq, nI_add, pk_mul, pk_sub, mup_s, mup_c, mup_j, mrw_c, if_pos, if_neg, zm_1, zm_2, zm_3, zm_4, zm_5, zm_6, zm_7, zm_8, zm_9, zf_0, zf_1, zf_2, zf_3, zf_4, zf_5, zf_6, zf_7, zf_8, zf_9, zf_10, zf_14, zf_15, zf_16, zf_18, zf_19, zf_20, zf_24, zf_30, zf_31, zf_32, zf_33, zf_99, zf_100, zf_160, zf_200, zf_287, zf_288, zf_300, zf_1000, zf_1023, zf_1024, zf_1600, zf_3840, zf_25600, zf_36000, zf_1000000, zf_1000000000, zf_2000000000, zf_11560, za_1, za_2, za_4, za_5, za_6, za_7, za_8, za_9, za_10, za_11, za_12, za_14, za_15, za_22, za_23, za_25, za_26, za_27, za_28, za_29, za_30, za_31, za_32, za_33, za_34, za_35, za_41, za_42, za_43, za_44, za_45, za_46, za_47, za_48, za_49, za_61, za_62, za_63, za_64, za_65, za_70]
      exact k5
  · rintro g y ⟨h1, h2, h3⟩
    show S_L_isTrimmed_100 N (L_L_isTrimmed_100 N g) m (nI i) (nI n) (nI L.length) (-1 : Int64) (nI 1) (nI 1) y (nI n) = _
    unfold S_L_isTrimmed_100
    simp (disch := omega) only [zi_t, zi_f, bnd_t, zg_in, zx, nI_ltI, nI_leI, nI_eq, nI_add, pk_mul, pk_sub, mup_s, mup_c, mup_j, mrw_c, if_pos, if_neg, zm_1, zm_2, zm_3, zm_4, zm_5, zm_6, zm_7, zm_8, zm_9, zf_0, zf_1, zf_2, zf_3, zf_4, zf_5, zf_6, zf_7, zf_8, zf_9, zf_10, zf_14, zf_15, zf_16, zf_18, zf_19, zf_20, zf_24, zf_30, zf_31, zf_32, zf_33, zf_99, zf_100, zf_160, zf_200, zf_287, zf_288, zf_300, zf_1000, zf_1023, zf_1024, zf_1600, zf_3840, zf_25600, zf_36000, zf_1000000, zf_1000000000, zf_2000000000, zf_11560, za_1, za_2, za_4, za_5, za_6, za_7, za_8, za_9, za_10, za_11, za_12, za_14, za_15, za_22, za_23, za_25, za_26, za_27, za_28, za_29, za_30, za_31, za_32, za_33, za_34, za_35, za_41, za_42, za_43, za_44, za_45, za_46, za_47, za_48, za_49, za_61, za_62, za_63, za_64, za_65, za_70]
    refine tr_167 hN hV hC gA hB ?_
    rcases hco with hco | hco
    · exact Or.inr hco
    · left
      intro s hs
      rw [Bool.eq_iff_iff, decide_eq_true_iff]
      refine ⟨fun h => (h1 s hs h).1, fun h => ?_⟩
      rcases h3 with h3 | h3
      · obtain ⟨e, c2, c3, c4⟩ := hco s h
        exact c4.rev.cl (S := fun a => t6 y a = true) (h2 e c2 c3) (fun a b ha ⟨q, q1, q2, q3⟩ => by
          have := h3 q q1 (by rw [q3]; exact ha)
          rw [q2] at this
          exact this)
      · exact cnt_full h3 s h
  · rw [hx s hs, Bool.and_eq_true, decide_eq_true_iff] at h
    exact ⟨h.1, s, h.1, h.2, Rc.rf⟩
  · rw [hx s (by omega), decide_eq_true hs, h]; rfl
/-- machines that are kept are trimmed -/
theorem as_isTrimmed (hN : 40000 < N) (hV : InV Ms w ls) (hC : InC m Ms w ls) (gA : Ms[i]? = some (n, f, L)) (hT : MdM (n, f, L)) : F_L_isTrimmed N m (nI i) = some (nI 1, m) := by
  obtain ⟨v1, v2, v3, v4, v5, v6, v7⟩ := hV.2.1 _ (List.mem_of_getElem? gA)
  have v1 : 1 ≤ n := v1
  have v2 : n ≤ 32 := v2
  have v3 : L.length ≤ 160 := v3
  have s1 := as_size (N := N) hV hC gA
  have ed : nI (1000 * n + L.length) / nI 1000 = nI n := by
    rw [show nI (1000 * n + L.length) / nI 1000 = nI ((1000 * n + L.length) / 1000) from pk_div (by omega) (by omega) (by omega)]
    congr 1
    omega
  have er : q_rem (nI (1000 * n + L.length)) (nI 1000) = nI L.length := by
    rw [show q_rem (nI (1000 * n + L.length)) (nI 1000) = nI ((1000 * n + L.length) % 1000) from pk_rem (by omega) (by omega) (by omega)]
    congr 1
    omega
  unfold F_L_isTrimmed
  rw [clL_t s1]
  simp (disch := omega) only [zi_t, zi_f, bnd_t, zg_in, zx, nI_ltI, nI_leI, nI_eq, nI_add, pk_mul, pk_sub, mup_s, mup_c, mup_j, mrw_c, if_pos, if_neg, zm_1, zm_2, zm_3, zm_4, zm_5, zm_6, zm_7, zm_8, zm_9, zf_0, zf_1, zf_2, zf_3, zf_4, zf_5, zf_6, zf_7, zf_8, zf_9, zf_10, zf_14, zf_15, zf_16, zf_18, zf_19, zf_20, zf_24, zf_30, zf_31, zf_32, zf_33, zf_99, zf_100, zf_160, zf_200, zf_287, zf_288, zf_300, zf_1000, zf_1023, zf_1024, zf_1600, zf_3840, zf_25600, zf_36000, zf_1000000, zf_1000000000, zf_2000000000, zf_11560, za_1, za_2, za_4, za_5, za_6, za_7, za_8, za_9, za_10, za_11, za_12, za_14, za_15, za_22, za_23, za_25, za_26, za_27, za_28, za_29, za_30, za_31, za_32, za_33, za_34, za_35, za_41, za_42, za_43, za_44, za_45, za_46, za_47, za_48, za_49, za_61, za_62, za_63, za_64, za_65, za_70, ed]
  rw [clL_t s1]
  simp (disch := omega) only [zi_t, zi_f, bnd_t, zg_in, zx, nI_ltI, nI_leI, nI_eq, nI_add, pk_mul, pk_sub, mup_s, mup_c, mup_j, mrw_c, if_pos, if_neg, zm_1, zm_2, zm_3, zm_4, zm_5, zm_6, zm_7, zm_8, zm_9, zf_0, zf_1, zf_2, zf_3, zf_4, zf_5, zf_6, zf_7, zf_8, zf_9, zf_10, zf_14, zf_15, zf_16, zf_18, zf_19, zf_20, zf_24, zf_30, zf_31, zf_32, zf_33, zf_99, zf_100, zf_160, zf_200, zf_287, zf_288, zf_300, zf_1000, zf_1023, zf_1024, zf_1600, zf_3840, zf_25600, zf_36000, zf_1000000, zf_1000000000, zf_2000000000, zf_11560, za_1, za_2, za_4, za_5, za_6, za_7, za_8, za_9, za_10, za_11, za_12, za_14, za_15, za_22, za_23, za_25, za_26, za_27, za_28, za_29, za_30, za_31, za_32, za_33, za_34, za_35, za_41, za_42, za_43, za_44, za_45, za_46, za_47, za_48, za_49, za_61, za_62, za_63, za_64, za_65, za_70, er]
  refine loopF (σ := Int64) (fun g y s => L_L_isTrimmed_26 N g m (nI i) (nI n) (nI L.length) y (nI s)) n (fun k y => ∀ s, s < 64 → t6 y s = (decide (s < k) && f s)) (fun o => o = some (nI 1, m)) ?_ ?_ N 0 (0 : Int64) (Nat.zero_le _) (fun s _ => by rw [t6_0]; rfl) (by omega)
  · rintro g s y hs h
    have e1 := as_isEnd (N := N) hV hC gA hs
    cases hf : f s with
    | true =>
      rw [hf] at e1
      refine Or.inl ⟨y ||| l_shl (1 : Int64) (nI s), fun t ht => ?_, ?_⟩
      · rw [t6_or, h t ht, t6_shl _ (by omega) t ht]
        by_cases e : t = s
        · rw [e, hf, decide_eq_true (show s < s + 1 by omega), decide_eq_true rfl, Bool.or_true]; rfl
        · rw [decide_eq_false e, Bool.or_false, show decide (t < s + 1) = decide (t < s) from decide_eq_decide.mpr (by omega)]
      · show S_L_isTrimmed_26 N (L_L_isTrimmed_26 N g) m (nI i) (nI n) (nI L.length) y (nI s) = _
        unfold S_L_isTrimmed_26
        simp (disch := omega) only [zi_t, zi_f, bnd_t, zg_in, zx, nI_ltI, nI_leI, nI_eq, nI_add, pk_mul, pk_sub, mup_s, mup_c, mup_j, mrw_c, if_pos, if_neg, zm_1, zm_2, zm_3, zm_4, zm_5, zm_6, zm_7, zm_8, zm_9, zf_0, zf_1, zf_2, zf_3, zf_4, zf_5, zf_6, zf_7, zf_8, zf_9, zf_10, zf_14, zf_15, zf_16, zf_18, zf_19, zf_20, zf_24, zf_30, zf_31, zf_32, zf_33, zf_99, zf_100, zf_160, zf_200, zf_287, zf_288, zf_300, zf_1000, zf_1023, zf_1024, zf_1600, zf_3840, zf_25600, zf_36000, zf_1000000, zf_1000000000, zf_2000000000, zf_11560, za_1, za_2, za_4, za_5, za_6, za_7, za_8, za_9, za_10, za_11, za_12, za_14, za_15, za_22, za_23, za_25, za_26, za_27, za_28, za_29, za_30, za_31, za_32, za_33, za_34, za_35, za_41, za_42, za_43, za_44, za_45, za_46, za_47, za_48, za_49, za_61, za_62, za_63, za_64, za_65, za_70]
        rw [clL_t e1]
        unfold B_L_isTrimmed_52
        simp (disch := omega) only [zi_t, zi_f, bnd_t, zg_in, zx, nI_ltI, nI_leI, nI_eq, nI_add, pk_mul, pk_sub, mup_s, mup_c, mup_j, mrw_c, if_pos, if_neg, zm_1, zm_2, zm_3, zm_4, zm_5, zm_6, zm_7, zm_8, zm_9, zf_0, zf_1, zf_2, zf_3, zf_4, zf_5, zf_6, zf_7, zf_8, zf_9, zf_10, zf_14, zf_15, zf_16, zf_18, zf_19, zf_20, zf_24, zf_30, zf_31, zf_32, zf_33, zf_99, zf_100, zf_160, zf_200, zf_287, zf_288, zf_300, zf_1000, zf_1023, zf_1024, zf_1600, zf_3840, zf_25600, zf_36000, zf_1000000, zf_1000000000, zf_2000000000, zf_11560, za_1, za_2, za_4, za_5, za_6, za_7, za_8, za_9, za_10, za_11, za_12, za_14, za_15, za_22, za_23, za_25, za_26, za_27, za_28, za_29, za_30, za_31, za_32, za_33, za_34, za_35, za_41, za_42, za_43, za_44, za_45, za_46, za_47, za_48, za_49, za_61, za_62, za_63, za_64, za_65, za_70, bI_t]
    | false =>
      rw [hf] at e1
      have ey : y ||| (0 : Int64) = y := t6_ext (fun s hs => by rw [t6_or, t6_0, Bool.or_false])
      refine Or.inl ⟨y, fun t ht => ?_, ?_⟩
      · rw [h t ht]
        by_cases e : t = s
        · rw [e, hf, Bool.and_false, Bool.and_false]
        · rw [show decide (t < s + 1) = decide (t < s) from decide_eq_decide.mpr (by omega)]
      · show S_L_isTrimmed_26 N (L_L_isTrimmed_26 N g) m (nI i) (nI n) (nI L.length) y (nI s) = _
        unfold S_L_isTrimmed_26
        simp (disch := omega) only [zi_t, zi_f, bnd_t, zg_in, zx, nI_ltI, nI_leI, nI_eq, nI_add, pk_mul, pk_sub, mup_s, mup_c, mup_j, mrw_c, if_pos, if_neg, zm_1, zm_2, zm_3, zm_4, zm_5, zm_6, zm_7, zm_8, zm_9, zf_0, zf_1, zf_2, zf_3, zf_4, zf_5, zf_6, zf_7, zf_8, zf_9, zf_10, zf_14, zf_15, zf_16, zf_18, zf_19, zf_20, zf_24, zf_30, zf_31, zf_32, zf_33, zf_99, zf_100, zf_160, zf_200, zf_287, zf_288, zf_300, zf_1000, zf_1023, zf_1024, zf_1600, zf_3840, zf_25600, zf_36000, zf_1000000, zf_1000000000, zf_2000000000, zf_11560, za_1, za_2, za_4, za_5, za_6, za_7, za_8, za_9, za_10, za_11, za_12, za_14, za_15, za_22, za_23, za_25, za_26, za_27, za_28, za_29, za_30, za_31, za_32, za_33, za_34, za_35, za_41, za_42, za_43, za_44, za_45, za_46, za_47, za_48, za_49, za_61, za_62, za_63, za_64, za_65, za_70]
        rw [clL_t e1]
        unfold B_L_isTrimmed_52
        rw [ey]
        simp (disch := omega) only [zi_t, zi_f, bnd_t, zg_in, zx, nI_ltI, nI_leI, nI_eq, nI_add, pk_mul, pk_sub, mup_s, mup_c, mup_j, mrw_c, if_pos, if_neg, zm_1, zm_2, zm_3, zm_4, zm_5, zm_6, zm_7, zm_8, zm_9, zf_0, zf_1, zf_2, zf_3, zf_4, zf_5, zf_6, zf_7, zf_8, zf_9, zf_10, zf_14, zf_15, zf_16, zf_18, zf_19, zf_20, zf_24, zf_30, zf_31, zf_32, zf_33, zf_99, zf_100, zf_160, zf_200, zf_287, zf_288, zf_300, zf_1000, zf_1023, zf_1024, zf_1600, zf_3840, zf_25600, zf_36000, zf_1000000, zf_1000000000, zf_2000000000, zf_11560, za_1, za_2, za_4, za_5, za_6, za_7, za_8, za_9, za_10, za_11, za_12, za_14, za_15, za_22, za_23, za_25, za_26, za_27, za_28, za_29, za_30, za_31, za_32, za_33, za_34, za_35, za_41, za_42, za_43, za_44, za_45, za_46, za_47, za_48, za_49, za_61, za_62, za_63, za_64, za_65, za_70, bI_f]
  · rintro g y h
    show S_L_isTrimmed_26 N (L_L_isTrimmed_26 N g) m (nI i) (nI n) (nI L.length) y (nI n) = _
    unfold S_L_isTrimmed_26 B_L_isTrimmed_91
    simp (disch := omega) only [zi_t, zi_f, bnd_t, zg_in, zx, nI_ltI, nI_leI, nI_eq, nI_add, pk_mul, pk_sub, mup_s, mup_c, mup_j, mrw_c, if_pos, if_neg, zm_1, zm_2, zm_3, zm_4, zm_5, zm_6, zm_7, zm_8, zm_9, zf_0, zf_1, zf_2, zf_3, zf_4, zf_5, zf_6, zf_7, zf_8, zf_9, zf_10, zf_14, zf_15, zf_16, zf_18, zf_19, zf_20, zf_24, zf_30, zf_31, zf_32, zf_33, zf_99, zf_100, zf_160, zf_200, zf_287, zf_288, zf_300, zf_1000, zf_1023, zf_1024, zf_1600, zf_3840, zf_25600, zf_36000, zf_1000000, zf_1000000000, zf_2000000000, zf_11560, za_1, za_2, za_4, za_5, za_6, za_7, za_8, za_9, za_10, za_11, za_12, za_14, za_15, za_22, za_23, za_25, za_26, za_27, za_28, za_29, za_30, za_31, za_32, za_33, za_34, za_35, za_41, za_42, za_43, za_44, za_45, za_46, za_47, za_48, za_49, za_61, za_62, za_63, za_64, za_65, za_70, zl_161]
    exact tr_100 hN hV hC gA hT h
end TRIM2
