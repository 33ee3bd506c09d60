def MX (m : Mem) (s : XS) (J : Nat) : Prop := m 70 35 = nI s.1.length ∧ (∀ i p, s.1[i]? = some p → m 92 i = p.1 ∧ m 93 i = p.2) ∧ (∀ i, i < s.1.length → m 95 i = s.2.2.1 i) ∧ (∀ i, 1 ≤ i → i < s.1.length → m 96 i = s.2.2.2 i) ∧ ∀ j, j < J → m 94 j = s.2.1 j
theorem MX.nx {m : Mem} {s : XS} {J : Nat} {v : Int32} (h : MX m s J) : MX (mup m 94 J v) (s.1, fup s.2.1 J v, s.2.2.1, s.2.2.2) (J + 1) := by
  obtain ⟨h1, h2, h3, h4, h5⟩ := h
  refine ⟨by rw [mup_c (by omega)]; exact h1, fun i p hp => ?_, fun i hi => by rw [mup_c (by omega)]; exact h3 i hi, fun i h1 hi => by rw [mup_c (by omega)]; exact h4 i h1 hi, fun j hj => ?_⟩
  · rw [mup_c (by omega), mup_c (by omega)]; exact h2 i p hp
  · show mup m 94 J v 94 j = if j = J then v else s.2.1 j
    rw [mup_if]
    by_cases e : j = J
    · rw [if_pos e, if_pos e]
    · rw [if_neg e, if_neg e]; exact h5 j (by omega)
theorem MX.add {m : Mem} {s : XS} {J : Nat} {a b : Int32} {k x : Int32} (h : MX m s J) : MX (mup (mup (mup (mup (mup m 92 s.1.length a) 93 s.1.length b) 95 s.1.length k) 96 s.1.length x) 70 35 (nI (s.1.length + 1))) (s.1 ++ [(a, b)], s.2.1, fup s.2.2.1 s.1.length k, fup s.2.2.2 s.1.length x) J := by
  obtain ⟨h1, h2, h3, h4, h5⟩ := h
  refine ⟨?_, fun i p hp => ?_, fun i hi => ?_, fun i i1 hi => ?_, fun j hj => ?_⟩
  · rw [mup_s]
    show _ = nI (s.1 ++ [(a, b)]).length
    rw [List.length_append]; rfl
  · rcases psnoc hp with ⟨hi, hp⟩ | ⟨hi, hp⟩
    · obtain ⟨e1, e2⟩ := h2 i p hp
      constructor
      · simp (disch := omega) only [zi_t, zi_f, bnd_t, zg_in, zx, nI_ltI, nI_leI, nI_eq, nI_add, pk_mul, pk_sub, mup_s, mup_c, mup_j, mrw_c, if_pos, if_neg, zm_1, zm_2, zm_3, zm_4, zm_5, zm_6, zm_7, zm_8, zm_9, zf_0, zf_1, zf_2, zf_3, zf_4, zf_5, zf_6, zf_7, zf_8, zf_9, zf_10, zf_14, zf_15, zf_16, zf_18, zf_19, zf_20, zf_24, zf_30, zf_31, zf_32, zf_33, zf_99, zf_100, zf_160, zf_200, zf_287, zf_288, zf_300, zf_1000, zf_1023, zf_1024, zf_1600, zf_3840, zf_25600, zf_36000, zf_1000000, zf_1000000000, zf_2000000000, zf_11560, za_1, za_2, za_4, za_5, za_6, za_7, za_8, za_9, za_10, za_11, za_12, za_14, za_15, za_22, za_23, za_25, za_26, za_27, za_28, za_29, za_30, za_31, za_32, za_33, za_34, za_35, za_41, za_42, za_43, za_44, za_45, za_46, za_47, za_48, za_49, za_61, za_62, za_63, za_64, za_65, za_70, e1]
      · simp (disch := omega) only [zi_t, zi_f, bnd_t, zg_in, zx, nI_ltI, nI_leI, nI_eq, nI_add, pk_mul, pk_sub, mup_s, mup_c, mup_j, mrw_c, if_pos, if_neg, zm_1, zm_2, zm_3, zm_4, zm_5, zm_6, zm_7, zm_8, zm_9, zf_0, zf_1, zf_2, zf_3, zf_4, zf_5, zf_6, zf_7, zf_8, zf_9, zf_10, zf_14, zf_15, zf_16, zf_18, zf_19, zf_20, zf_24, zf_30, zf_31, zf_32, zf_33, zf_99, zf_100, zf_160, zf_200, zf_287, zf_288, zf_300, zf_1000, zf_1023, zf_1024, zf_1600, zf_3840, zf_25600, zf_36000, zf_1000000, zf_1000000000, zf_2000000000, zf_11560, za_1, za_2, za_4, za_5, za_6, za_7, za_8, za_9, za_10, za_11, za_12, za_14, za_15, za_22, za_23, za_25, za_26, za_27, za_28, za_29, za_30, za_31, za_32, za_33, za_34, za_35, za_41, za_42, za_43, za_44, za_45, za_46, za_47, za_48, za_49, za_61, za_62, za_63, za_64, za_65, za_70, e2]
    · rw [hi, hp]
      constructor
      · simp (disch := omega) only [zi_t, zi_f, bnd_t, zg_in, zx, nI_ltI, nI_leI, nI_eq, nI_add, pk_mul, pk_sub, mup_s, mup_c, mup_j, mrw_c, if_pos, if_neg, zm_1, zm_2, zm_3, zm_4, zm_5, zm_6, zm_7, zm_8, zm_9, zf_0, zf_1, zf_2, zf_3, zf_4, zf_5, zf_6, zf_7, zf_8, zf_9, zf_10, zf_14, zf_15, zf_16, zf_18, zf_19, zf_20, zf_24, zf_30, zf_31, zf_32, zf_33, zf_99, zf_100, zf_160, zf_200, zf_287, zf_288, zf_300, zf_1000, zf_1023, zf_1024, zf_1600, zf_3840, zf_25600, zf_36000, zf_1000000, zf_1000000000, zf_2000000000, zf_11560, za_1, za_2, za_4, za_5, za_6, za_7, za_8, za_9, za_10, za_11, za_12, za_14, za_15, za_22, za_23, za_25, za_26, za_27, za_28, za_29, za_30, za_31, za_32, za_33, za_34, za_35, za_41, za_42, za_43, za_44, za_45, za_46, za_47, za_48, za_49, za_61, za_62, za_63, za_64, za_65, za_70]
      · simp (disch := omega) only [zi_t, zi_f, bnd_t, zg_in, zx, nI_ltI, nI_leI, nI_eq, nI_add, pk_mul, pk_sub, mup_s, mup_c, mup_j, mrw_c, if_pos, if_neg, zm_1, zm_2, zm_3, zm_4, zm_5, zm_6, zm_7, zm_8, zm_9, zf_0, zf_1, zf_2, zf_3, zf_4, zf_5, zf_6, zf_7, zf_8, zf_9, zf_10, zf_14, zf_15, zf_16, zf_18, zf_19, zf_20, zf_24, zf_30, zf_31, zf_32, zf_33, zf_99, zf_100, zf_160, zf_200, zf_287, zf_288, zf_300, zf_1000, zf_1023, zf_1024, zf_1600, zf_3840, zf_25600, zf_36000, zf_1000000, zf_1000000000, zf_2000000000, zf_11560, za_1, za_2, za_4, za_5, za_6, za_7, za_8, za_9, za_10, za_11, za_12, za_14, za_15, za_22, za_23, za_25, za_26, za_27, za_28, za_29, za_30, za_31, za_32, za_33, za_34, za_35, za_41, za_42, za_43, za_44, za_45, za_46, za_47, za_48, za_49, za_61, za_62, za_63, za_64, za_65, za_70]
  · have hi : i < s.1.length + 1 := by
      have := hi
      simp only [List.length_append, List.length_singleton] at this
      exact this
    rw [mup_c (by omega), mup_c (by omega), mup_if]
    show _ = if i = s.1.length then k else s.2.2.1 i
    by_cases e : i = s.1.length
    · rw [if_pos e, if_pos e]
    · rw [if_neg e, if_neg e]
      rw [mup_c (by omega), mup_c (by omega)]
      exact h3 i (by omega)
  · have hi : i < s.1.length + 1 := by
      have := hi
      simp only [List.length_append, List.length_singleton] at this
      exact this
    rw [mup_c (by omega), mup_if]
    show _ = if i = s.1.length then x else s.2.2.2 i
    by_cases e : i = s.1.length
    · rw [if_pos e, if_pos e]
    · rw [if_neg e, if_neg e]
      rw [mup_c (by omega), mup_c (by omega), mup_c (by omega)]
      exact h4 i i1 (by omega)
  · show mup _ 70 35 _ 94 j = s.2.1 j
    rw [mup_c (by omega), mup_c (by omega), mup_c (by omega), mup_c (by omega), mup_c (by omega)]
    exact h5 j hj
theorem MX.in {m : Mem} {s : XS} {J j : Nat} {v : Int32} (h : MX m s J) (hj : J ≤ j) : MX (mup m 94 j v) s J := by
  obtain ⟨h1, h2, h3, h4, h5⟩ := h
  refine ⟨by rw [mup_c (by omega)]; exact h1, fun i p hp => ?_, fun i hi => by rw [mup_c (by omega)]; exact h3 i hi, fun i h1 hi => by rw [mup_c (by omega)]; exact h4 i h1 hi, fun i hi => by rw [mup_j (by omega)]; exact h5 i hi⟩
  rw [mup_c (by omega), mup_c (by omega)]; exact h2 i p hp
