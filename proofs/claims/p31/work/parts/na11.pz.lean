theorem cl_relates {N a n : Nat} {u : Bool} {m : Mem} {L : ArL} {f : Nat → Bool} (hN : 40000 < N) (ha : 200 ≤ a) (hC : MC m a n (eB f n) L) (hok : DOK n L) (h1 : 1 ≤ n) (hn : n ≤ 32) (hl : L.length ≤ 160) :
    ∃ v, Clo (selG u) L (nI 1) v ∧ F_X3_relatesEmpty N m a (bI u) = some (bI (decide (v &&& eB f n ≠ nI 0)), m) := by
  have hl32 := hok.l32 hn
  unfold F_X3_relatesEmpty
  have hend : ∀ v, B_X3_relatesEmpty_123 N m a v = some (bI (decide (v &&& eB f n ≠ nI 0)), m) := by
    intro v
    have e2 := hC.2.1
    unfold B_X3_relatesEmpty_123 B_X3_relatesEmpty_137
    rw [e2]
    by_cases h : v &&& eB f n = nI 0
    · rw [decide_eq_false (by simp [h])]
      simp (disch := omega) only [zi_t, zi_f, bnd_t, zg_in, zx, nI_ltI, nI_leI, nI_eq, nI_add, pk_mul, pk_sub, mup_s, mup_c, mup_j, mrw_c, if_pos, if_neg, zm_1, zm_2, zm_3, zm_4, zm_5, zm_6, zm_7, zm_8, zm_9, zf_0, zf_1, zf_2, zf_3, zf_4, zf_5, zf_6, zf_7, zf_8, zf_9, zf_10, zf_14, zf_15, zf_16, zf_18, zf_19, zf_20, zf_24, zf_30, zf_31, zf_32, zf_33, zf_99, zf_100, zf_160, zf_200, zf_287, zf_288, zf_300, zf_1000, zf_1023, zf_1024, zf_1600, zf_3840, zf_25600, zf_36000, zf_1000000, zf_1000000000, zf_2000000000, zf_11560, za_1, za_2, za_4, za_5, za_6, za_7, za_8, za_9, za_10, za_11, za_12, za_14, za_15, za_22, za_23, za_25, za_26, za_27, za_28, za_29, za_30, za_31, za_32, za_33, za_34, za_35, za_41, za_42, za_43, za_44, za_45, za_46, za_47, za_48, za_49, za_61, za_62, za_63, za_64, za_65, za_70, e2, h]
      rfl
    · rw [decide_eq_true h]
      simp (disch := omega) only [zi_t, zi_f, bnd_t, zg_in, zx, nI_ltI, nI_leI, nI_eq, nI_add, pk_mul, pk_sub, mup_s, mup_c, mup_j, mrw_c, if_pos, if_neg, zm_1, zm_2, zm_3, zm_4, zm_5, zm_6, zm_7, zm_8, zm_9, zf_0, zf_1, zf_2, zf_3, zf_4, zf_5, zf_6, zf_7, zf_8, zf_9, zf_10, zf_14, zf_15, zf_16, zf_18, zf_19, zf_20, zf_24, zf_30, zf_31, zf_32, zf_33, zf_99, zf_100, zf_160, zf_200, zf_287, zf_288, zf_300, zf_1000, zf_1023, zf_1024, zf_1600, zf_3840, zf_25600, zf_36000, zf_1000000, zf_1000000000, zf_2000000000, zf_11560, za_1, za_2, za_4, za_5, za_6, za_7, za_8, za_9, za_10, za_11, za_12, za_14, za_15, za_22, za_23, za_25, za_26, za_27, za_28, za_29, za_30, za_31, za_32, za_33, za_34, za_35, za_41, za_42, za_43, za_44, za_45, za_46, za_47, za_48, za_49, za_61, za_62, za_63, za_64, za_65, za_70, e2, h]
      rfl
  refine loopW (fun F (s : Int32 × Bool × Nat) => L_X3_relatesEmpty_7 N F m a (bI u) s.1 (bI s.2.1) (nI s.2.2))
    (fun s => s.2.2 ≤ n ∧ s.1 = itA (selG u) L (nI 1) s.2.2 ∧ (s.2.1 = false → psA (selG u) L s.1 = s.1)) (fun s => n - s.2.2)
    (fun o => ∃ v, Clo (selG u) L (nI 1) v ∧ o = some (bI (decide (v &&& eB f n ≠ nI 0)), m)) ?_ N (nI 1, true, 0) ⟨Nat.zero_le _, rfl, fun h => (by cases h)⟩ (by show n - 0 < N; omega)
  rintro F ⟨v, fl, k⟩ hI
  have hI : k ≤ n ∧ v = itA (selG u) L (nI 1) k ∧ (fl = false → psA (selG u) L v = v) := hI
  obtain ⟨i1, i2, i3⟩ := hI
  have e1 := hC.1
  cases fl with
  | false =>
    refine Or.inr ⟨v, ?_, ?_⟩
    · have := i3 rfl
      rw [i2] at this ⊢
      exact clo_of hl32 this
    · show S_X3_relatesEmpty_7 N (L_X3_relatesEmpty_7 N F) m a (bI u) v (bI false) (nI k) = _
      unfold S_X3_relatesEmpty_7
      simp (disch := omega) only [zi_t, zi_f, bnd_t, zg_in, zx, nI_ltI, nI_leI, nI_eq, nI_add, pk_mul, pk_sub, mup_s, mup_c, mup_j, mrw_c, if_pos, if_neg, zm_1, zm_2, zm_3, zm_4, zm_5, zm_6, zm_7, zm_8, zm_9, zf_0, zf_1, zf_2, zf_3, zf_4, zf_5, zf_6, zf_7, zf_8, zf_9, zf_10, zf_14, zf_15, zf_16, zf_18, zf_19, zf_20, zf_24, zf_30, zf_31, zf_32, zf_33, zf_99, zf_100, zf_160, zf_200, zf_287, zf_288, zf_300, zf_1000, zf_1023, zf_1024, zf_1600, zf_3840, zf_25600, zf_36000, zf_1000000, zf_1000000000, zf_2000000000, zf_11560, za_1, za_2, za_4, za_5, za_6, za_7, za_8, za_9, za_10, za_11, za_12, za_14, za_15, za_22, za_23, za_25, za_26, za_27, za_28, za_29, za_30, za_31, za_32, za_33, za_34, za_35, za_41, za_42, za_43, za_44, za_45, za_46, za_47, za_48, za_49, za_61, za_62, za_63, za_64, za_65, za_70, bI_f]
      exact hend v
  | true =>
    rcases Nat.lt_or_ge k n with hk | hk
    · refine Or.inl ⟨(psA (selG u) L v, decide (psA (selG u) L v ≠ v), k + 1), ⟨by show k + 1 ≤ n; omega, by show psA (selG u) L v = psA (selG u) L (itA (selG u) L (nI 1) k); rw [i2], ?_⟩, by show n - (k + 1) < n - k; omega, ?_⟩
      · intro h
        have h : decide (psA (selG u) L v ≠ v) = false := h
        have h2 : psA (selG u) L v = v := Classical.byContradiction (fun hne => by rw [decide_eq_true hne] at h; cases h)
        show psA (selG u) L (psA (selG u) L v) = psA (selG u) L v
        rw [h2, h2]
      · show S_X3_relatesEmpty_7 N (L_X3_relatesEmpty_7 N F) m a (bI u) v (bI true) (nI k) = _
        unfold S_X3_relatesEmpty_7
        simp (disch := omega) only [zi_t, zi_f, bnd_t, zg_in, zx, nI_ltI, nI_leI, nI_eq, nI_add, pk_mul, pk_sub, mup_s, mup_c, mup_j, mrw_c, if_pos, if_neg, zm_1, zm_2, zm_3, zm_4, zm_5, zm_6, zm_7, zm_8, zm_9, zf_0, zf_1, zf_2, zf_3, zf_4, zf_5, zf_6, zf_7, zf_8, zf_9, zf_10, zf_14, zf_15, zf_16, zf_18, zf_19, zf_20, zf_24, zf_30, zf_31, zf_32, zf_33, zf_99, zf_100, zf_160, zf_200, zf_287, zf_288, zf_300, zf_1000, zf_1023, zf_1024, zf_1600, zf_3840, zf_25600, zf_36000, zf_1000000, zf_1000000000, zf_2000000000, zf_11560, za_1, za_2, za_4, za_5, za_6, za_7, za_8, za_9, za_10, za_11, za_12, za_14, za_15, za_22, za_23, za_25, za_26, za_27, za_28, za_29, za_30, za_31, za_32, za_33, za_34, za_35, za_41, za_42, za_43, za_44, za_45, za_46, za_47, za_48, za_49, za_61, za_62, za_63, za_64, za_65, za_70, bI_t, e1]
        exact cl_rel_in hN ha hC.2.2 hok hn hl (by omega)
    · refine Or.inr ⟨v, ?_, ?_⟩
      · rw [i2]
        exact clo_of hl32 (itA_done hok hn (one_lt h1) cnt_1 hk)
      · show S_X3_relatesEmpty_7 N (L_X3_relatesEmpty_7 N F) m a (bI u) v (bI true) (nI k) = _
        unfold S_X3_relatesEmpty_7
        simp (disch := omega) only [zi_t, zi_f, bnd_t, zg_in, zx, nI_ltI, nI_leI, nI_eq, nI_add, pk_mul, pk_sub, mup_s, mup_c, mup_j, mrw_c, if_pos, if_neg, zm_1, zm_2, zm_3, zm_4, zm_5, zm_6, zm_7, zm_8, zm_9, zf_0, zf_1, zf_2, zf_3, zf_4, zf_5, zf_6, zf_7, zf_8, zf_9, zf_10, zf_14, zf_15, zf_16, zf_18, zf_19, zf_20, zf_24, zf_30, zf_31, zf_32, zf_33, zf_99, zf_100, zf_160, zf_200, zf_287, zf_288, zf_300, zf_1000, zf_1023, zf_1024, zf_1600, zf_3840, zf_25600, zf_36000, zf_1000000, zf_1000000000, zf_2000000000, zf_11560, za_1, za_2, za_4, za_5, za_6, za_7, za_8, za_9, za_10, za_11, za_12, za_14, za_15, za_22, za_23, za_25, za_26, za_27, za_28, za_29, za_30, za_31, za_32, za_33, za_34, za_35, za_41, za_42, za_43, za_44, za_45, za_46, za_47, za_48, za_49, za_61, za_62, za_63, za_64, za_65, za_70, bI_t, e1]
        exact hend v
