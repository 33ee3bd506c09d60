/-! the model looks -/
def MX (m : Mem) (s : XS) (J : Nat) : Prop := m 70 35 = nI s.1.length ∧ (∀ i p, s.1[i]? = some p → m 92 i = p.1 ∧ m 93 i = p.2) ∧ (∀ i, i < s.1.length → m 95 i = s.2.2.1 i) ∧ (∀ i, 1 ≤ i → i < s.1.length → m 96 i = s.2.2.2 i) ∧ ∀ j, j < J → m 94 j = s.2.1 j
theorem MX.nx {m : Mem} {s : XS} {J : Nat} {v : Int32} (h : MX m s J) : MX (mup m 94 J v) (s.1, fup s.2.1 J v, s.2.2.1, s.2.2.2) (J + 1) := by
  obtain ⟨h1, h2, h3, h4, h5⟩ := h
  refine ⟨by rw [mup_c (by omega)]; exact h1, fun i p hp => ?_, fun i hi => by rw [mup_c (by omega)]; exact h3 i hi, fun i h1 hi => by rw [mup_c (by omega)]; exact h4 i h1 hi, fun j hj => ?_⟩
  · rw [mup_c (by omega), mup_c (by omega)]; exact h2 i p hp
  · show mup m 94 J v 94 j = if j = J then v else s.2.1 j
    rw [mup_if]
    by_cases e : j = J
    · rw [if_pos e, if_pos e]
    · rw [if_neg e, if_neg e]; exact h5 j (by omega)
theorem MX.add {m : Mem} {s : XS} {J : Nat} {a b : Int32} {k x : Int32} (h : MX m s J) : MX (mup (mup (mup (mup (mup m 92 s.1.length a) 93 s.1.length b) 95 s.1.length k) 96 s.1.length x) 70 35 (nI (s.1.length + 1))) (s.1 ++ [(a, b)], s.2.1, fup s.2.2.1 s.1.length k, fup s.2.2.2 s.1.length x) J := by
  obtain ⟨h1, h2, h3, h4, h5⟩ := h
  refine ⟨?_, fun i p hp => ?_, fun i hi => ?_, fun i i1 hi => ?_, fun j hj => ?_⟩
  · rw [mup_s]
    show _ = nI (s.1 ++ [(a, b)]).length
    rw [List.length_append]; rfl
  · rcases psnoc hp with ⟨hi, hp⟩ | ⟨hi, hp⟩
    · obtain ⟨e1, e2⟩ := h2 i p hp
      constructor
      · simp (disch := omega) only [zi_t, zi_f, bnd_t, zg_in, zx, nI_ltI, nI_leI, nI_eq, nI_add, pk_mul, pk_sub, mup_s, mup_c, mup_j, mrw_c, if_pos, if_neg, zm_1, zm_2, zm_3, zm_4, zm_5, zm_6, zm_7, zm_8, zm_9, zf_0, zf_1, zf_2, zf_3, zf_4, zf_5, zf_6, zf_7, zf_8, zf_9, zf_10, zf_14, zf_15, zf_16, zf_18, zf_19, zf_20, zf_24, zf_30, zf_31, zf_32, zf_33, zf_99, zf_100, zf_160, zf_200, zf_287, zf_288, zf_300, zf_1000, zf_1023, zf_1024, zf_1600, zf_3840, zf_25600, zf_36000, zf_1000000, zf_1000000000, zf_2000000000, zf_11560, za_1, za_2, za_4, za_5, za_6, za_7, za_8, za_9, za_10, za_11, za_12, za_14, za_15, za_22, za_23, za_25, za_26, za_27, za_28, za_29, za_30, za_31, za_32, za_33, za_34, za_35, za_41, za_42, za_43, za_44, za_45, za_46, za_47, za_48, za_49, za_61, za_62, za_63, za_64, za_65, za_71, za_72, za_73, za_74, za_75, za_76, za_77, za_78, za_79, za_80, za_81, za_82, za_83, za_84, za_85, za_86, za_87, za_88, za_89, za_90, za_91, za_92, za_93, za_94, za_95, za_96, za_97, za_98, za_99, za_100, za_101, za_102, za_103, za_104, za_105, za_106, za_107, za_108, e1]
      · simp (disch := omega) only [zi_t, zi_f, bnd_t, zg_in, zx, nI_ltI, nI_leI, nI_eq, nI_add, pk_mul, pk_sub, mup_s, mup_c, mup_j, mrw_c, if_pos, if_neg, zm_1, zm_2, zm_3, zm_4, zm_5, zm_6, zm_7, zm_8, zm_9, zf_0, zf_1, zf_2, zf_3, zf_4, zf_5, zf_6, zf_7, zf_8, zf_9, zf_10, zf_14, zf_15, zf_16, zf_18, zf_19, zf_20, zf_24, zf_30, zf_31, zf_32, zf_33, zf_99, zf_100, zf_160, zf_200, zf_287, zf_288, zf_300, zf_1000, zf_1023, zf_1024, zf_1600, zf_3840, zf_25600, zf_36000, zf_1000000, zf_1000000000, zf_2000000000, zf_11560, za_1, za_2, za_4, za_5, za_6, za_7, za_8, za_9, za_10, za_11, za_12, za_14, za_15, za_22, za_23, za_25, za_26, za_27, za_28, za_29, za_30, za_31, za_32, za_33, za_34, za_35, za_41, za_42, za_43, za_44, za_45, za_46, za_47, za_48, za_49, za_61, za_62, za_63, za_64, za_65, za_71, za_72, za_73, za_74, za_75, za_76, za_77, za_78, za_79, za_80, za_81, za_82, za_83, za_84, za_85, za_86, za_87, za_88, za_89, za_90, za_91, za_92, za_93, za_94, za_95, za_96, za_97, za_98, za_99, za_100, za_101, za_102, za_103, za_104, za_105, za_106, za_107, za_108, e2]
    · rw [hi, hp]
      constructor
      · simp (disch := omega) only [zi_t, zi_f, bnd_t, zg_in, zx, nI_ltI, nI_leI, nI_eq, nI_add, pk_mul, pk_sub, mup_s, mup_c, mup_j, mrw_c, if_pos, if_neg, zm_1, zm_2, zm_3, zm_4, zm_5, zm_6, zm_7, zm_8, zm_9, zf_0, zf_1, zf_2, zf_3, zf_4, zf_5, zf_6, zf_7, zf_8, zf_9, zf_10, zf_14, zf_15, zf_16, zf_18, zf_19, zf_20, zf_24, zf_30, zf_31, zf_32, zf_33, zf_99, zf_100, zf_160, zf_200, zf_287, zf_288, zf_300, zf_1000, zf_1023, zf_1024, zf_1600, zf_3840, zf_25600, zf_36000, zf_1000000, zf_1000000000, zf_2000000000, zf_11560, za_1, za_2, za_4, za_5, za_6, za_7, za_8, za_9, za_10, za_11, za_12, za_14, za_15, za_22, za_23, za_25, za_26, za_27, za_28, za_29, za_30, za_31, za_32, za_33, za_34, za_35, za_41, za_42, za_43, za_44, za_45, za_46, za_47, za_48, za_49, za_61, za_62, za_63, za_64, za_65, za_71, za_72, za_73, za_74, za_75, za_76, za_77, za_78, za_79, za_80, za_81, za_82, za_83, za_84, za_85, za_86, za_87, za_88, za_89, za_90, za_91, za_92, za_93, za_94, za_95, za_96, za_97, za_98, za_99, za_100, za_101, za_102, za_103, za_104, za_105, za_106, za_107, za_108]
      · simp (disch := omega) only [zi_t, zi_f, bnd_t, zg_in, zx, nI_ltI, nI_leI, nI_eq, nI_add, pk_mul, pk_sub, mup_s, mup_c, mup_j, mrw_c, if_pos, if_neg, zm_1, zm_2, zm_3, zm_4, zm_5, zm_6, zm_7, zm_8, zm_9, zf_0, zf_1, zf_2, zf_3, zf_4, zf_5, zf_6, zf_7, zf_8, zf_9, zf_10, zf_14, zf_15, zf_16, zf_18, zf_19, zf_20, zf_24, zf_30, zf_31, zf_32, zf_33, zf_99, zf_100, zf_160, zf_200, zf_287, zf_288, zf_300, zf_1000, zf_1023, zf_1024, zf_1600, zf_3840, zf_25600, zf_36000, zf_1000000, zf_1000000000, zf_2000000000, zf_11560, za_1, za_2, za_4, za_5, za_6, za_7, za_8, za_9, za_10, za_11, za_12, za_14, za_15, za_22, za_23, za_25, za_26, za_27, za_28, za_29, za_30, za_31, za_32, za_33, za_34, za_35, za_41, za_42, za_43, za_44, za_45, za_46, za_47, za_48, za_49, za_61, za_62, za_63, za_64, za_65, za_71, za_72, za_73, za_74, za_75, za_76, za_77, za_78, za_79, za_80, za_81, za_82, za_83, za_84, za_85, za_86, za_87, za_88, za_89, za_90, za_91, za_92, za_93, za_94, za_95, za_96, za_97, za_98, za_99, za_100, za_101, za_102, za_103, za_104, za_105, za_106, za_107, za_108]
  · have hi : i < s.1.length + 1 := by
      have := hi
      simp only [List.length_append, List.length_singleton] at this
      exact this
    rw [mup_c (by omega), mup_c (by omega), mup_if]
    show _ = if i = s.1.length then k else s.2.2.1 i
    by_cases e : i = s.1.length
    · rw [if_pos e, if_pos e]
    · rw [if_neg e, if_neg e]
      rw [mup_c (by omega), mup_c (by omega)]
      exact h3 i (by omega)
  · have hi : i < s.1.length + 1 := by
      have := hi
      simp only [List.length_append, List.length_singleton] at this
      exact this
    rw [mup_c (by omega), mup_if]
    show _ = if i = s.1.length then x else s.2.2.2 i
    by_cases e : i = s.1.length
    · rw [if_pos e, if_pos e]
    · rw [if_neg e, if_neg e]
      rw [mup_c (by omega), mup_c (by omega), mup_c (by omega)]
      exact h4 i i1 (by omega)
  · show mup _ 70 35 _ 94 j = s.2.1 j
    rw [mup_c (by omega), mup_c (by omega), mup_c (by omega), mup_c (by omega), mup_c (by omega)]
    exact h5 j hj
theorem MX.in {m : Mem} {s : XS} {J j : Nat} {v : Int32} (h : MX m s J) (hj : J ≤ j) : MX (mup m 94 j v) s J := by
  obtain ⟨h1, h2, h3, h4, h5⟩ := h
  refine ⟨by rw [mup_c (by omega)]; exact h1, fun i p hp => ?_, fun i hi => by rw [mup_c (by omega)]; exact h3 i hi, fun i h1 hi => by rw [mup_c (by omega)]; exact h4 i h1 hi, fun i hi => by rw [mup_j (by omega)]; exact h5 i hi⟩
  rw [mup_c (by omega), mup_c (by omega)]; exact h2 i p hp
theorem mo_placeOf {N : Nat} {a b k x : Int32} {m : Mem} {s : XS} {J : Nat} (hN : 40000 < N) (h : MX m s J) (hl : s.1.length ≤ 200) :
    (ixp s.1 (a, b) < s.1.length ∧ F_X8_placeOf N m a b k x = some (nI (ixp s.1 (a, b)), m)) ∨ (ixp s.1 (a, b) = s.1.length ∧ s.1.length < 200 ∧ F_X8_placeOf N m a b k x = some (nI s.1.length, mup (mup (mup (mup (mup m 92 s.1.length a) 93 s.1.length b) 95 s.1.length k) 96 s.1.length x) 70 35 (nI (s.1.length + 1)))) ∨ (ixp s.1 (a, b) = s.1.length ∧ s.1.length = 200 ∧ F_X8_placeOf N m a b k x = some (nM, m)) := by
  obtain ⟨h1, h2, _⟩ := h
  unfold F_X8_placeOf
  refine loopF (σ := Unit) (fun f _ i => L_X8_placeOf_3 N f m a b k x (nI i)) s.1.length (fun i _ => ∀ j q, j < i → s.1[j]? = some q → q ≠ (a, b)) (fun o => (ixp s.1 (a, b) < s.1.length ∧ o = some (nI (ixp s.1 (a, b)), m)) ∨ (ixp s.1 (a, b) = s.1.length ∧ s.1.length < 200 ∧ o = some (nI s.1.length, mup (mup (mup (mup (mup m 92 s.1.length a) 93 s.1.length b) 95 s.1.length k) 96 s.1.length x) 70 35 (nI (s.1.length + 1)))) ∨ (ixp s.1 (a, b) = s.1.length ∧ s.1.length = 200 ∧ o = some (nM, m))) ?_ ?_ N 0 () (Nat.zero_le _) (fun j q hj => absurd hj (Nat.not_lt_zero _)) (by omega)
  · rintro f i _ hi hI
    obtain ⟨p, hp⟩ : ∃ p, s.1[i]? = some p := ⟨_, List.getElem?_eq_getElem hi⟩
    obtain ⟨e1, e2⟩ := h2 i p hp
    have hgo : p ≠ (a, b) → ∀ j q, j < i + 1 → s.1[j]? = some q → q ≠ (a, b) := by
      intro hne j q hj hq
      by_cases e : j = i
      · rw [e, hp] at hq
        rw [← Option.some.inj hq]; exact hne
      · exact hI j q (by omega) hq
    by_cases c1 : p.1 = a
    · by_cases c2 : p.2 = b
      · have hpe : p = (a, b) := Prod.ext c1 c2
        have hix := ixp_of (p := (a, b)) (Nat.le_of_lt hi) hI (fun _ => by rw [hp, hpe])
        refine Or.inr (Or.inl ⟨by rw [hix]; exact hi, ?_⟩)
        rw [hix]
        show S_X8_placeOf_3 N (L_X8_placeOf_3 N f) m a b k x (nI i) = _
        unfold S_X8_placeOf_3
        simp (disch := omega) only [zi_t, zi_f, bnd_t, zg_in, zx, nI_ltI, nI_leI, nI_eq, nI_add, pk_mul, pk_sub, mup_s, mup_c, mup_j, mrw_c, if_pos, if_neg, zm_1, zm_2, zm_3, zm_4, zm_5, zm_6, zm_7, zm_8, zm_9, zf_0, zf_1, zf_2, zf_3, zf_4, zf_5, zf_6, zf_7, zf_8, zf_9, zf_10, zf_14, zf_15, zf_16, zf_18, zf_19, zf_20, zf_24, zf_30, zf_31, zf_32, zf_33, zf_99, zf_100, zf_160, zf_200, zf_287, zf_288, zf_300, zf_1000, zf_1023, zf_1024, zf_1600, zf_3840, zf_25600, zf_36000, zf_1000000, zf_1000000000, zf_2000000000, zf_11560, za_1, za_2, za_4, za_5, za_6, za_7, za_8, za_9, za_10, za_11, za_12, za_14, za_15, za_22, za_23, za_25, za_26, za_27, za_28, za_29, za_30, za_31, za_32, za_33, za_34, za_35, za_41, za_42, za_43, za_44, za_45, za_46, za_47, za_48, za_49, za_61, za_62, za_63, za_64, za_65, za_71, za_72, za_73, za_74, za_75, za_76, za_77, za_78, za_79, za_80, za_81, za_82, za_83, za_84, za_85, za_86, za_87, za_88, za_89, za_90, za_91, za_92, za_93, za_94, za_95, za_96, za_97, za_98, za_99, za_100, za_101, za_102, za_103, za_104, za_105, za_106, za_107, za_108, h1, e1, e2, c1, c2]
      · refine Or.inl ⟨(), hgo (fun e => c2 (by rw [e])), ?_⟩
        show S_X8_placeOf_3 N (L_X8_placeOf_3 N f) m a b k x (nI i) = _
        unfold S_X8_placeOf_3 B_X8_placeOf_37
        simp (disch := omega) only [zi_t, zi_f, bnd_t, zg_in, zx, nI_ltI, nI_leI, nI_eq, nI_add, pk_mul, pk_sub, mup_s, mup_c, mup_j, mrw_c, if_pos, if_neg, zm_1, zm_2, zm_3, zm_4, zm_5, zm_6, zm_7, zm_8, zm_9, zf_0, zf_1, zf_2, zf_3, zf_4, zf_5, zf_6, zf_7, zf_8, zf_9, zf_10, zf_14, zf_15, zf_16, zf_18, zf_19, zf_20, zf_24, zf_30, zf_31, zf_32, zf_33, zf_99, zf_100, zf_160, zf_200, zf_287, zf_288, zf_300, zf_1000, zf_1023, zf_1024, zf_1600, zf_3840, zf_25600, zf_36000, zf_1000000, zf_1000000000, zf_2000000000, zf_11560, za_1, za_2, za_4, za_5, za_6, za_7, za_8, za_9, za_10, za_11, za_12, za_14, za_15, za_22, za_23, za_25, za_26, za_27, za_28, za_29, za_30, za_31, za_32, za_33, za_34, za_35, za_41, za_42, za_43, za_44, za_45, za_46, za_47, za_48, za_49, za_61, za_62, za_63, za_64, za_65, za_71, za_72, za_73, za_74, za_75, za_76, za_77, za_78, za_79, za_80, za_81, za_82, za_83, za_84, za_85, za_86, za_87, za_88, za_89, za_90, za_91, za_92, za_93, za_94, za_95, za_96, za_97, za_98, za_99, za_100, za_101, za_102, za_103, za_104, za_105, za_106, za_107, za_108, h1, e1, e2, c1, c2]
    · refine Or.inl ⟨(), hgo (fun e => c1 (by rw [e])), ?_⟩
      show S_X8_placeOf_3 N (L_X8_placeOf_3 N f) m a b k x (nI i) = _
      unfold S_X8_placeOf_3 B_X8_placeOf_37
      simp (disch := omega) only [zi_t, zi_f, bnd_t, zg_in, zx, nI_ltI, nI_leI, nI_eq, nI_add, pk_mul, pk_sub, mup_s, mup_c, mup_j, mrw_c, if_pos, if_neg, zm_1, zm_2, zm_3, zm_4, zm_5, zm_6, zm_7, zm_8, zm_9, zf_0, zf_1, zf_2, zf_3, zf_4, zf_5, zf_6, zf_7, zf_8, zf_9, zf_10, zf_14, zf_15, zf_16, zf_18, zf_19, zf_20, zf_24, zf_30, zf_31, zf_32, zf_33, zf_99, zf_100, zf_160, zf_200, zf_287, zf_288, zf_300, zf_1000, zf_1023, zf_1024, zf_1600, zf_3840, zf_25600, zf_36000, zf_1000000, zf_1000000000, zf_2000000000, zf_11560, za_1, za_2, za_4, za_5, za_6, za_7, za_8, za_9, za_10, za_11, za_12, za_14, za_15, za_22, za_23, za_25, za_26, za_27, za_28, za_29, za_30, za_31, za_32, za_33, za_34, za_35, za_41, za_42, za_43, za_44, za_45, za_46, za_47, za_48, za_49, za_61, za_62, za_63, za_64, za_65, za_71, za_72, za_73, za_74, za_75, za_76, za_77, za_78, za_79, za_80, za_81, za_82, za_83, za_84, za_85, za_86, za_87, za_88, za_89, za_90, za_91, za_92, za_93, za_94, za_95, za_96, za_97, za_98, za_99, za_100, za_101, za_102, za_103, za_104, za_105, za_106, za_107, za_108, h1, e1, c1]
  · rintro f _ hI
    have hix := ixp_of (p := (a, b)) (Nat.le_refl _) hI (fun h => absurd h (Nat.lt_irrefl _))
    right
    by_cases c : s.1.length < 200
    · refine Or.inl ⟨hix, c, ?_⟩
      show S_X8_placeOf_3 N (L_X8_placeOf_3 N f) m a b k x (nI s.1.length) = _
      unfold S_X8_placeOf_3
      simp (disch := omega) only [zi_t, zi_f, bnd_t, zg_in, zx, nI_ltI, nI_leI, nI_eq, nI_add, pk_mul, pk_sub, mup_s, mup_c, mup_j, mrw_c, if_pos, if_neg, zm_1, zm_2, zm_3, zm_4, zm_5, zm_6, zm_7, zm_8, zm_9, zf_0, zf_1, zf_2, zf_3, zf_4, zf_5, zf_6, zf_7, zf_8, zf_9, zf_10, zf_14, zf_15, zf_16, zf_18, zf_19, zf_20, zf_24, zf_30, zf_31, zf_32, zf_33, zf_99, zf_100, zf_160, zf_200, zf_287, zf_288, zf_300, zf_1000, zf_1023, zf_1024, zf_1600, zf_3840, zf_25600, zf_36000, zf_1000000, zf_1000000000, zf_2000000000, zf_11560, za_1, za_2, za_4, za_5, za_6, za_7, za_8, za_9, za_10, za_11, za_12, za_14, za_15, za_22, za_23, za_25, za_26, za_27, za_28, za_29, za_30, za_31, za_32, za_33, za_34, za_35, za_41, za_42, za_43, za_44, za_45, za_46, za_47, za_48, za_49, za_61, za_62, za_63, za_64, za_65, za_71, za_72, za_73, za_74, za_75, za_76, za_77, za_78, za_79, za_80, za_81, za_82, za_83, za_84, za_85, za_86, za_87, za_88, za_89, za_90, za_91, za_92, za_93, za_94, za_95, za_96, za_97, za_98, za_99, za_100, za_101, za_102, za_103, za_104, za_105, za_106, za_107, za_108, h1]
      rw [show s.1.length + 1 - 1 = s.1.length by omega]
    · have hc : s.1.length = 200 := by omega
      refine Or.inr ⟨hix, hc, ?_⟩
      rw [hc] at h1
      show S_X8_placeOf_3 N (L_X8_placeOf_3 N f) m a b k x (nI s.1.length) = _
      rw [hc]
      unfold S_X8_placeOf_3
      simp (disch := omega) only [zi_t, zi_f, bnd_t, zg_in, zx, nI_ltI, nI_leI, nI_eq, nI_add, pk_mul, pk_sub, mup_s, mup_c, mup_j, mrw_c, if_pos, if_neg, zm_1, zm_2, zm_3, zm_4, zm_5, zm_6, zm_7, zm_8, zm_9, zf_0, zf_1, zf_2, zf_3, zf_4, zf_5, zf_6, zf_7, zf_8, zf_9, zf_10, zf_14, zf_15, zf_16, zf_18, zf_19, zf_20, zf_24, zf_30, zf_31, zf_32, zf_33, zf_99, zf_100, zf_160, zf_200, zf_287, zf_288, zf_300, zf_1000, zf_1023, zf_1024, zf_1600, zf_3840, zf_25600, zf_36000, zf_1000000, zf_1000000000, zf_2000000000, zf_11560, za_1, za_2, za_4, za_5, za_6, za_7, za_8, za_9, za_10, za_11, za_12, za_14, za_15, za_22, za_23, za_25, za_26, za_27, za_28, za_29, za_30, za_31, za_32, za_33, za_34, za_35, za_41, za_42, za_43, za_44, za_45, za_46, za_47, za_48, za_49, za_61, za_62, za_63, za_64, za_65, za_71, za_72, za_73, za_74, za_75, za_76, za_77, za_78, za_79, za_80, za_81, za_82, za_83, za_84, za_85, za_86, za_87, za_88, za_89, za_90, za_91, za_92, za_93, za_94, za_95, za_96, za_97, za_98, za_99, za_100, za_101, za_102, za_103, za_104, za_105, za_106, za_107, za_108, h1]
theorem mo_exStep {N k x i j what : Nat} {m0 m : Mem} {s : XS} {fA fB : Int32 → Nat → Int32} {r44 : Mem → Int32 → Int32 → Int32 → Int32 → Int32 → Option (Int32 × Mem)} {r61 : Mem → Int32 → Int32 → Int32 → Int32 → Int32 → Int32 → Option (Int32 × Mem)} (hN : 40000 < N)
    (hA : ∀ m', Fx 92 97 [35] m0 m' → ∀ v x, x < 8 → F_X8_step N m' (nI i) v (nI x) = some (fA v x, m')) (hB : what ≠ 0 → ∀ m', Fx 92 97 [35] m0 m' → ∀ v x, x < 8 → F_X8_step N m' (nI j) v (nI x) = some (fB v x, m')) (hB0 : what = 0 → ∀ v x, fB v x = nI 0) (hwh : what < 4)
    (hF : Fx 92 97 [35] m0 m) (h : MX m s (8 * k + x)) (hk : k < s.1.length) (hl : s.1.length ≤ 200) (hx : x < 8) :
    ∃ m', Fx 92 97 [35] m0 m' ∧ ((exL fA fB (kpW (wnW what)) s k x = none ∧ S_X8_looks_61 N r44 r61 m (nI i) (nI j) (nI what) (nI 1) (nI k) (nI x) = r61 m' (nI i) (nI j) (nI what) (nI 0) (nI k) (nI (x + 1)) ∧ ∃ l, m' 70 35 = nI l ∧ l ≤ 200) ∨ ∃ s', exL fA fB (kpW (wnW what)) s k x = some s' ∧ MX m' s' (8 * k + (x + 1)) ∧ S_X8_looks_61 N r44 r61 m (nI i) (nI j) (nI what) (nI 1) (nI k) (nI x) = r61 m' (nI i) (nI j) (nI what) (nI 1) (nI k) (nI (x + 1))) := by
  obtain ⟨p, hp⟩ : ∃ p, p = s.1.getD k (nI 0, nI 0) := ⟨_, rfl⟩
  obtain ⟨e1, e2⟩ := h.2.1 k _ (ps_get hk)
  rw [← hp] at e1 e2
  obtain ⟨a, ha⟩ : ∃ a, a = fA p.1 x := ⟨_, rfl⟩
  obtain ⟨b, hb⟩ : ∃ b, b = fB p.2 x := ⟨_, rfl⟩
  have gA := hA m hF p.1 x hx
  rw [← ha] at gA
  have h111 : S_X8_looks_61 N r44 r61 m (nI i) (nI j) (nI what) (nI 1) (nI k) (nI x) = B_X8_looks_111 N r44 r61 m (nI i) (nI j) (nI what) (nI 1) (nI k) (nI x) a b := by
    unfold S_X8_looks_61
    simp (disch := omega) only [zi_t, zi_f, bnd_t, zg_in, zx, nI_ltI, nI_leI, nI_eq, nI_add, pk_mul, pk_sub, mup_s, mup_c, mup_j, mrw_c, if_pos, if_neg, zm_1, zm_2, zm_3, zm_4, zm_5, zm_6, zm_7, zm_8, zm_9, zf_0, zf_1, zf_2, zf_3, zf_4, zf_5, zf_6, zf_7, zf_8, zf_9, zf_10, zf_14, zf_15, zf_16, zf_18, zf_19, zf_20, zf_24, zf_30, zf_31, zf_32, zf_33, zf_99, zf_100, zf_160, zf_200, zf_287, zf_288, zf_300, zf_1000, zf_1023, zf_1024, zf_1600, zf_3840, zf_25600, zf_36000, zf_1000000, zf_1000000000, zf_2000000000, zf_11560, za_1, za_2, za_4, za_5, za_6, za_7, za_8, za_9, za_10, za_11, za_12, za_14, za_15, za_22, za_23, za_25, za_26, za_27, za_28, za_29, za_30, za_31, za_32, za_33, za_34, za_35, za_41, za_42, za_43, za_44, za_45, za_46, za_47, za_48, za_49, za_61, za_62, za_63, za_64, za_65, za_71, za_72, za_73, za_74, za_75, za_76, za_77, za_78, za_79, za_80, za_81, za_82, za_83, za_84, za_85, za_86, za_87, za_88, za_89, za_90, za_91, za_92, za_93, za_94, za_95, za_96, za_97, za_98, za_99, za_100, za_101, za_102, za_103, za_104, za_105, za_106, za_107, za_108, e1]
    rw [cal_t gA]
    by_cases c0 : what = 0
    · have hb0 := hB0 c0 p.2 x
      rw [← hb] at hb0
      rw [hb0]
      simp (disch := omega) only [zi_t, zi_f, bnd_t, zg_in, zx, nI_ltI, nI_leI, nI_eq, nI_add, pk_mul, pk_sub, mup_s, mup_c, mup_j, mrw_c, if_pos, if_neg, zm_1, zm_2, zm_3, zm_4, zm_5, zm_6, zm_7, zm_8, zm_9, zf_0, zf_1, zf_2, zf_3, zf_4, zf_5, zf_6, zf_7, zf_8, zf_9, zf_10, zf_14, zf_15, zf_16, zf_18, zf_19, zf_20, zf_24, zf_30, zf_31, zf_32, zf_33, zf_99, zf_100, zf_160, zf_200, zf_287, zf_288, zf_300, zf_1000, zf_1023, zf_1024, zf_1600, zf_3840, zf_25600, zf_36000, zf_1000000, zf_1000000000, zf_2000000000, zf_11560, za_1, za_2, za_4, za_5, za_6, za_7, za_8, za_9, za_10, za_11, za_12, za_14, za_15, za_22, za_23, za_25, za_26, za_27, za_28, za_29, za_30, za_31, za_32, za_33, za_34, za_35, za_41, za_42, za_43, za_44, za_45, za_46, za_47, za_48, za_49, za_61, za_62, za_63, za_64, za_65, za_71, za_72, za_73, za_74, za_75, za_76, za_77, za_78, za_79, za_80, za_81, za_82, za_83, za_84, za_85, za_86, za_87, za_88, za_89, za_90, za_91, za_92, za_93, za_94, za_95, za_96, za_97, za_98, za_99, za_100, za_101, za_102, za_103, za_104, za_105, za_106, za_107, za_108, c0]
    · have gB := hB c0 m hF p.2 x hx
      rw [← hb] at gB
      have c0' : ¬ nI what = nI 0 := fun h => c0 ((nI_eq (b := 0) (by omega) (by omega)).mp h)
      simp (disch := omega) only [zi_t, zi_f, bnd_t, zg_in, zx, nI_ltI, nI_leI, nI_eq, nI_add, pk_mul, pk_sub, mup_s, mup_c, mup_j, mrw_c, if_pos, if_neg, zm_1, zm_2, zm_3, zm_4, zm_5, zm_6, zm_7, zm_8, zm_9, zf_0, zf_1, zf_2, zf_3, zf_4, zf_5, zf_6, zf_7, zf_8, zf_9, zf_10, zf_14, zf_15, zf_16, zf_18, zf_19, zf_20, zf_24, zf_30, zf_31, zf_32, zf_33, zf_99, zf_100, zf_160, zf_200, zf_287, zf_288, zf_300, zf_1000, zf_1023, zf_1024, zf_1600, zf_3840, zf_25600, zf_36000, zf_1000000, zf_1000000000, zf_2000000000, zf_11560, za_1, za_2, za_4, za_5, za_6, za_7, za_8, za_9, za_10, za_11, za_12, za_14, za_15, za_22, za_23, za_25, za_26, za_27, za_28, za_29, za_30, za_31, za_32, za_33, za_34, za_35, za_41, za_42, za_43, za_44, za_45, za_46, za_47, za_48, za_49, za_61, za_62, za_63, za_64, za_65, za_71, za_72, za_73, za_74, za_75, za_76, za_77, za_78, za_79, za_80, za_81, za_82, za_83, za_84, za_85, za_86, za_87, za_88, za_89, za_90, za_91, za_92, za_93, za_94, za_95, za_96, za_97, za_98, za_99, za_100, za_101, za_102, za_103, za_104, za_105, za_106, za_107, za_108, c0', e2]
      rw [cal_t gB]
  rw [h111]
  have hpl := ixp_le s.1 (a, b)
  have hex : exL fA fB (kpW (wnW what)) s k x = if kpW (wnW what) a b = true then (if ixp s.1 (a, b) < s.1.length then some (s.1, fup s.2.1 (8 * k + x) (nI (ixp s.1 (a, b))), s.2.2.1, s.2.2.2) else if s.1.length < 200 then some (s.1 ++ [(a, b)], fup s.2.1 (8 * k + x) (nI s.1.length), fup s.2.2.1 s.1.length (nI k), fup s.2.2.2 s.1.length (nI x)) else none) else some (s.1, fup s.2.1 (8 * k + x) nM, s.2.2.1, s.2.2.2) := by
    rw [ha, hb, hp]; rfl
  have gK := mo_kept (a := a) (b := b) hwh
  rw [hex]
  unfold B_X8_looks_111
  cases hkp : kpW (wnW what) a b with
  | false =>
    rw [hkp, bI_f] at gK
    refine ⟨mup m 94 (8 * k + x) nM, hF.up (by omega) (by omega) (by omega), Or.inr ⟨_, if_neg (by simp), h.nx, ?_⟩⟩
    unfold B_X8_looks_187
    simp (disch := omega) only [zi_t, zi_f, bnd_t, zg_in, zx, nI_ltI, nI_leI, nI_eq, nI_add, pk_mul, pk_sub, mup_s, mup_c, mup_j, mrw_c, if_pos, if_neg, zm_1, zm_2, zm_3, zm_4, zm_5, zm_6, zm_7, zm_8, zm_9, zf_0, zf_1, zf_2, zf_3, zf_4, zf_5, zf_6, zf_7, zf_8, zf_9, zf_10, zf_14, zf_15, zf_16, zf_18, zf_19, zf_20, zf_24, zf_30, zf_31, zf_32, zf_33, zf_99, zf_100, zf_160, zf_200, zf_287, zf_288, zf_300, zf_1000, zf_1023, zf_1024, zf_1600, zf_3840, zf_25600, zf_36000, zf_1000000, zf_1000000000, zf_2000000000, zf_11560, za_1, za_2, za_4, za_5, za_6, za_7, za_8, za_9, za_10, za_11, za_12, za_14, za_15, za_22, za_23, za_25, za_26, za_27, za_28, za_29, za_30, za_31, za_32, za_33, za_34, za_35, za_41, za_42, za_43, za_44, za_45, za_46, za_47, za_48, za_49, za_61, za_62, za_63, za_64, za_65, za_71, za_72, za_73, za_74, za_75, za_76, za_77, za_78, za_79, za_80, za_81, za_82, za_83, za_84, za_85, za_86, za_87, za_88, za_89, za_90, za_91, za_92, za_93, za_94, za_95, za_96, za_97, za_98, za_99, za_100, za_101, za_102, za_103, za_104, za_105, za_106, za_107, za_108, gK]
  | true =>
    rw [hkp, bI_t] at gK
    rw [if_pos (show true = true from rfl)]
    have hin := h.in (v := nM) (Nat.le_refl (8 * k + x))
    have hF1 := hF.up (k := 94) (j := 8 * k + x) (x := nM) (by omega) (by omega) (by omega)
    rcases mo_placeOf (N := N) (a := a) (b := b) (k := nI k) (x := nI x) hN hin hl with ⟨c, gP⟩ | ⟨hc, c2, gP⟩ | ⟨hc, c2, gP⟩
    · refine ⟨mup (mup m 94 (8 * k + x) nM) 94 (8 * k + x) (nI (ixp s.1 (a, b))), hF1.up (by omega) (by omega) (by omega), Or.inr ⟨_, if_pos c, hin.nx, ?_⟩⟩
      simp (disch := omega) only [zi_t, zi_f, bnd_t, zg_in, zx, nI_ltI, nI_leI, nI_eq, nI_add, pk_mul, pk_sub, mup_s, mup_c, mup_j, mrw_c, if_pos, if_neg, zm_1, zm_2, zm_3, zm_4, zm_5, zm_6, zm_7, zm_8, zm_9, zf_0, zf_1, zf_2, zf_3, zf_4, zf_5, zf_6, zf_7, zf_8, zf_9, zf_10, zf_14, zf_15, zf_16, zf_18, zf_19, zf_20, zf_24, zf_30, zf_31, zf_32, zf_33, zf_99, zf_100, zf_160, zf_200, zf_287, zf_288, zf_300, zf_1000, zf_1023, zf_1024, zf_1600, zf_3840, zf_25600, zf_36000, zf_1000000, zf_1000000000, zf_2000000000, zf_11560, za_1, za_2, za_4, za_5, za_6, za_7, za_8, za_9, za_10, za_11, za_12, za_14, za_15, za_22, za_23, za_25, za_26, za_27, za_28, za_29, za_30, za_31, za_32, za_33, za_34, za_35, za_41, za_42, za_43, za_44, za_45, za_46, za_47, za_48, za_49, za_61, za_62, za_63, za_64, za_65, za_71, za_72, za_73, za_74, za_75, za_76, za_77, za_78, za_79, za_80, za_81, za_82, za_83, za_84, za_85, za_86, za_87, za_88, za_89, za_90, za_91, za_92, za_93, za_94, za_95, za_96, za_97, za_98, za_99, za_100, za_101, za_102, za_103, za_104, za_105, za_106, za_107, za_108, gK]
      rw [cal_t gP]
      unfold B_X8_looks_185 B_X8_looks_187
      simp (disch := omega) only [zi_t, zi_f, bnd_t, zg_in, zx, nI_ltI, nI_leI, nI_eq, nI_add, pk_mul, pk_sub, mup_s, mup_c, mup_j, mrw_c, if_pos, if_neg, zm_1, zm_2, zm_3, zm_4, zm_5, zm_6, zm_7, zm_8, zm_9, zf_0, zf_1, zf_2, zf_3, zf_4, zf_5, zf_6, zf_7, zf_8, zf_9, zf_10, zf_14, zf_15, zf_16, zf_18, zf_19, zf_20, zf_24, zf_30, zf_31, zf_32, zf_33, zf_99, zf_100, zf_160, zf_200, zf_287, zf_288, zf_300, zf_1000, zf_1023, zf_1024, zf_1600, zf_3840, zf_25600, zf_36000, zf_1000000, zf_1000000000, zf_2000000000, zf_11560, za_1, za_2, za_4, za_5, za_6, za_7, za_8, za_9, za_10, za_11, za_12, za_14, za_15, za_22, za_23, za_25, za_26, za_27, za_28, za_29, za_30, za_31, za_32, za_33, za_34, za_35, za_41, za_42, za_43, za_44, za_45, za_46, za_47, za_48, za_49, za_61, za_62, za_63, za_64, za_65, za_71, za_72, za_73, za_74, za_75, za_76, za_77, za_78, za_79, za_80, za_81, za_82, za_83, za_84, za_85, za_86, za_87, za_88, za_89, za_90, za_91, za_92, za_93, za_94, za_95, za_96, za_97, za_98, za_99, za_100, za_101, za_102, za_103, za_104, za_105, za_106, za_107, za_108]
    · rw [if_neg (by omega)]
      have hadd := hin.add (a := a) (b := b) (k := nI k) (x := nI x)
      refine ⟨_, ((((((hF1.up (by omega) (by omega) (by omega)).up (by omega) (by omega) (by omega)).up (by omega) (by omega) (by omega)).up (by omega) (by omega) (by omega)).sl (by simp))).up (by omega) (by omega) (by omega), Or.inr ⟨_, if_pos c2, hadd.nx (v := nI s.1.length), ?_⟩⟩
      simp (disch := omega) only [zi_t, zi_f, bnd_t, zg_in, zx, nI_ltI, nI_leI, nI_eq, nI_add, pk_mul, pk_sub, mup_s, mup_c, mup_j, mrw_c, if_pos, if_neg, zm_1, zm_2, zm_3, zm_4, zm_5, zm_6, zm_7, zm_8, zm_9, zf_0, zf_1, zf_2, zf_3, zf_4, zf_5, zf_6, zf_7, zf_8, zf_9, zf_10, zf_14, zf_15, zf_16, zf_18, zf_19, zf_20, zf_24, zf_30, zf_31, zf_32, zf_33, zf_99, zf_100, zf_160, zf_200, zf_287, zf_288, zf_300, zf_1000, zf_1023, zf_1024, zf_1600, zf_3840, zf_25600, zf_36000, zf_1000000, zf_1000000000, zf_2000000000, zf_11560, za_1, za_2, za_4, za_5, za_6, za_7, za_8, za_9, za_10, za_11, za_12, za_14, za_15, za_22, za_23, za_25, za_26, za_27, za_28, za_29, za_30, za_31, za_32, za_33, za_34, za_35, za_41, za_42, za_43, za_44, za_45, za_46, za_47, za_48, za_49, za_61, za_62, za_63, za_64, za_65, za_71, za_72, za_73, za_74, za_75, za_76, za_77, za_78, za_79, za_80, za_81, za_82, za_83, za_84, za_85, za_86, za_87, za_88, za_89, za_90, za_91, za_92, za_93, za_94, za_95, za_96, za_97, za_98, za_99, za_100, za_101, za_102, za_103, za_104, za_105, za_106, za_107, za_108, gK]
      rw [cal_t gP]
      unfold B_X8_looks_185 B_X8_looks_187
      simp (disch := omega) only [zi_t, zi_f, bnd_t, zg_in, zx, nI_ltI, nI_leI, nI_eq, nI_add, pk_mul, pk_sub, mup_s, mup_c, mup_j, mrw_c, if_pos, if_neg, zm_1, zm_2, zm_3, zm_4, zm_5, zm_6, zm_7, zm_8, zm_9, zf_0, zf_1, zf_2, zf_3, zf_4, zf_5, zf_6, zf_7, zf_8, zf_9, zf_10, zf_14, zf_15, zf_16, zf_18, zf_19, zf_20, zf_24, zf_30, zf_31, zf_32, zf_33, zf_99, zf_100, zf_160, zf_200, zf_287, zf_288, zf_300, zf_1000, zf_1023, zf_1024, zf_1600, zf_3840, zf_25600, zf_36000, zf_1000000, zf_1000000000, zf_2000000000, zf_11560, za_1, za_2, za_4, za_5, za_6, za_7, za_8, za_9, za_10, za_11, za_12, za_14, za_15, za_22, za_23, za_25, za_26, za_27, za_28, za_29, za_30, za_31, za_32, za_33, za_34, za_35, za_41, za_42, za_43, za_44, za_45, za_46, za_47, za_48, za_49, za_61, za_62, za_63, za_64, za_65, za_71, za_72, za_73, za_74, za_75, za_76, za_77, za_78, za_79, za_80, za_81, za_82, za_83, za_84, za_85, za_86, za_87, za_88, za_89, za_90, za_91, za_92, za_93, za_94, za_95, za_96, za_97, za_98, za_99, za_100, za_101, za_102, za_103, za_104, za_105, za_106, za_107, za_108]
    · rw [if_neg (by omega), if_neg (by omega)]
      refine ⟨mup (mup m 94 (8 * k + x) nM) 94 (8 * k + x) nM, hF1.up (by omega) (by omega) (by omega), Or.inl ⟨rfl, ?_, s.1.length, by rw [mup_c (by omega), mup_c (by omega)]; exact h.1, hl⟩⟩
      simp (disch := omega) only [zi_t, zi_f, bnd_t, zg_in, zx, nI_ltI, nI_leI, nI_eq, nI_add, pk_mul, pk_sub, mup_s, mup_c, mup_j, mrw_c, if_pos, if_neg, zm_1, zm_2, zm_3, zm_4, zm_5, zm_6, zm_7, zm_8, zm_9, zf_0, zf_1, zf_2, zf_3, zf_4, zf_5, zf_6, zf_7, zf_8, zf_9, zf_10, zf_14, zf_15, zf_16, zf_18, zf_19, zf_20, zf_24, zf_30, zf_31, zf_32, zf_33, zf_99, zf_100, zf_160, zf_200, zf_287, zf_288, zf_300, zf_1000, zf_1023, zf_1024, zf_1600, zf_3840, zf_25600, zf_36000, zf_1000000, zf_1000000000, zf_2000000000, zf_11560, za_1, za_2, za_4, za_5, za_6, za_7, za_8, za_9, za_10, za_11, za_12, za_14, za_15, za_22, za_23, za_25, za_26, za_27, za_28, za_29, za_30, za_31, za_32, za_33, za_34, za_35, za_41, za_42, za_43, za_44, za_45, za_46, za_47, za_48, za_49, za_61, za_62, za_63, za_64, za_65, za_71, za_72, za_73, za_74, za_75, za_76, za_77, za_78, za_79, za_80, za_81, za_82, za_83, za_84, za_85, za_86, za_87, za_88, za_89, za_90, za_91, za_92, za_93, za_94, za_95, za_96, za_97, za_98, za_99, za_100, za_101, za_102, za_103, za_104, za_105, za_106, za_107, za_108, gK]
      rw [cal_t gP]
      unfold B_X8_looks_185 B_X8_looks_187
      simp (disch := omega) only [zi_t, zi_f, bnd_t, zg_in, zx, nI_ltI, nI_leI, nI_eq, nI_add, pk_mul, pk_sub, mup_s, mup_c, mup_j, mrw_c, if_pos, if_neg, zm_1, zm_2, zm_3, zm_4, zm_5, zm_6, zm_7, zm_8, zm_9, zf_0, zf_1, zf_2, zf_3, zf_4, zf_5, zf_6, zf_7, zf_8, zf_9, zf_10, zf_14, zf_15, zf_16, zf_18, zf_19, zf_20, zf_24, zf_30, zf_31, zf_32, zf_33, zf_99, zf_100, zf_160, zf_200, zf_287, zf_288, zf_300, zf_1000, zf_1023, zf_1024, zf_1600, zf_3840, zf_25600, zf_36000, zf_1000000, zf_1000000000, zf_2000000000, zf_11560, za_1, za_2, za_4, za_5, za_6, za_7, za_8, za_9, za_10, za_11, za_12, za_14, za_15, za_22, za_23, za_25, za_26, za_27, za_28, za_29, za_30, za_31, za_32, za_33, za_34, za_35, za_41, za_42, za_43, za_44, za_45, za_46, za_47, za_48, za_49, za_61, za_62, za_63, za_64, za_65, za_71, za_72, za_73, za_74, za_75, za_76, za_77, za_78, za_79, za_80, za_81, za_82, za_83, za_84, za_85, za_86, za_87, za_88, za_89, za_90, za_91, za_92, za_93, za_94, za_95, za_96, za_97, za_98, za_99, za_100, za_101, za_102, za_103, za_104, za_105, za_106, za_107, za_108]
theorem mo_looks {N i j what : Nat} {m : Mem} {a0 b0 : Int32} {fA fB : Int32 → Nat → Int32} (hN : 40000 < N)
    (hA : ∀ m', Fx 92 97 [35] m m' → ∀ v x, x < 8 → F_X8_step N m' (nI i) v (nI x) = some (fA v x, m')) (hB : what ≠ 0 → ∀ m', Fx 92 97 [35] m m' → ∀ v x, x < 8 → F_X8_step N m' (nI j) v (nI x) = some (fB v x, m')) (hB0 : what = 0 → ∀ v x, fB v x = nI 0) (hwh : what < 4)
    (hFa : ∀ m', Fx 92 97 [35] m m' → F_X8_closed N m' (nI i) (nI 1) = some (a0, m')) (hFb : what ≠ 0 → ∀ m', Fx 92 97 [35] m m' → F_X8_closed N m' (nI j) (nI 1) = some (b0, m')) (hFb0 : what = 0 → b0 = nI 0) :
    ∃ m', Fx 92 97 [35] m m' ∧ ((exR fA fB (kpW (wnW what)) a0 b0 200 = none ∧ F_X8_looks N m (nI i) (nI j) (nI what) = some (nI 0, m')) ∨ ∃ s, exR fA fB (kpW (wnW what)) a0 b0 200 = some s ∧ F_X8_looks N m (nI i) (nI j) (nI what) = some (nI 1, m') ∧ MX m' s (8 * s.1.length) ∧ s.1.length ≤ 200) := by
  obtain ⟨m1, hm1⟩ : ∃ m1, m1 = mup m 70 35 (nI 0) := ⟨_, rfl⟩
  have f1 : Fx 92 97 [35] m m1 := by rw [hm1]; exact Fx.rf.sl (by simp)
  obtain ⟨m2, hm2⟩ : ∃ m2, m2 = mup (mup (mup (mup (mup m1 92 0 a0) 93 0 b0) 95 0 nM) 96 0 (nI 0)) 70 35 (nI 1) := ⟨_, rfl⟩
  have f2 : Fx 92 97 [35] m m2 := by rw [hm2]; exact ((((f1.up (by omega) (by omega) (by omega)).up (by omega) (by omega) (by omega)).up (by omega) (by omega) (by omega)).up (by omega) (by omega) (by omega)).sl (by simp)
  have c2 : MX m2 (exI a0 b0) (8 * 0) := by
    refine ⟨by rw [hm2, mup_s]; rfl, fun i p hp => ?_, fun i hi => ?_, fun i i1 hi => ?_, fun j hj => absurd hj (Nat.not_lt_zero _)⟩
    · have hi : i < 1 := (List.getElem?_eq_some_iff.mp hp).1
      have hi0 : i = 0 := by omega
      rw [hi0] at hp ⊢
      have : (a0, b0) = p := Option.some.inj hp
      rw [← this, hm2]
      constructor
      · simp (disch := omega) only [zi_t, zi_f, bnd_t, zg_in, zx, nI_ltI, nI_leI, nI_eq, nI_add, pk_mul, pk_sub, mup_s, mup_c, mup_j, mrw_c, if_pos, if_neg, zm_1, zm_2, zm_3, zm_4, zm_5, zm_6, zm_7, zm_8, zm_9, zf_0, zf_1, zf_2, zf_3, zf_4, zf_5, zf_6, zf_7, zf_8, zf_9, zf_10, zf_14, zf_15, zf_16, zf_18, zf_19, zf_20, zf_24, zf_30, zf_31, zf_32, zf_33, zf_99, zf_100, zf_160, zf_200, zf_287, zf_288, zf_300, zf_1000, zf_1023, zf_1024, zf_1600, zf_3840, zf_25600, zf_36000, zf_1000000, zf_1000000000, zf_2000000000, zf_11560, za_1, za_2, za_4, za_5, za_6, za_7, za_8, za_9, za_10, za_11, za_12, za_14, za_15, za_22, za_23, za_25, za_26, za_27, za_28, za_29, za_30, za_31, za_32, za_33, za_34, za_35, za_41, za_42, za_43, za_44, za_45, za_46, za_47, za_48, za_49, za_61, za_62, za_63, za_64, za_65, za_71, za_72, za_73, za_74, za_75, za_76, za_77, za_78, za_79, za_80, za_81, za_82, za_83, za_84, za_85, za_86, za_87, za_88, za_89, za_90, za_91, za_92, za_93, za_94, za_95, za_96, za_97, za_98, za_99, za_100, za_101, za_102, za_103, za_104, za_105, za_106, za_107, za_108]
      · simp (disch := omega) only [zi_t, zi_f, bnd_t, zg_in, zx, nI_ltI, nI_leI, nI_eq, nI_add, pk_mul, pk_sub, mup_s, mup_c, mup_j, mrw_c, if_pos, if_neg, zm_1, zm_2, zm_3, zm_4, zm_5, zm_6, zm_7, zm_8, zm_9, zf_0, zf_1, zf_2, zf_3, zf_4, zf_5, zf_6, zf_7, zf_8, zf_9, zf_10, zf_14, zf_15, zf_16, zf_18, zf_19, zf_20, zf_24, zf_30, zf_31, zf_32, zf_33, zf_99, zf_100, zf_160, zf_200, zf_287, zf_288, zf_300, zf_1000, zf_1023, zf_1024, zf_1600, zf_3840, zf_25600, zf_36000, zf_1000000, zf_1000000000, zf_2000000000, zf_11560, za_1, za_2, za_4, za_5, za_6, za_7, za_8, za_9, za_10, za_11, za_12, za_14, za_15, za_22, za_23, za_25, za_26, za_27, za_28, za_29, za_30, za_31, za_32, za_33, za_34, za_35, za_41, za_42, za_43, za_44, za_45, za_46, za_47, za_48, za_49, za_61, za_62, za_63, za_64, za_65, za_71, za_72, za_73, za_74, za_75, za_76, za_77, za_78, za_79, za_80, za_81, za_82, za_83, za_84, za_85, za_86, za_87, za_88, za_89, za_90, za_91, za_92, za_93, za_94, za_95, za_96, za_97, za_98, za_99, za_100, za_101, za_102, za_103, za_104, za_105, za_106, za_107, za_108]
    · have hi : i < 1 := hi
      have hi0 : i = 0 := by omega
      rw [hi0, hm2]
      simp (disch := omega) only [zi_t, zi_f, bnd_t, zg_in, zx, nI_ltI, nI_leI, nI_eq, nI_add, pk_mul, pk_sub, mup_s, mup_c, mup_j, mrw_c, if_pos, if_neg, zm_1, zm_2, zm_3, zm_4, zm_5, zm_6, zm_7, zm_8, zm_9, zf_0, zf_1, zf_2, zf_3, zf_4, zf_5, zf_6, zf_7, zf_8, zf_9, zf_10, zf_14, zf_15, zf_16, zf_18, zf_19, zf_20, zf_24, zf_30, zf_31, zf_32, zf_33, zf_99, zf_100, zf_160, zf_200, zf_287, zf_288, zf_300, zf_1000, zf_1023, zf_1024, zf_1600, zf_3840, zf_25600, zf_36000, zf_1000000, zf_1000000000, zf_2000000000, zf_11560, za_1, za_2, za_4, za_5, za_6, za_7, za_8, za_9, za_10, za_11, za_12, za_14, za_15, za_22, za_23, za_25, za_26, za_27, za_28, za_29, za_30, za_31, za_32, za_33, za_34, za_35, za_41, za_42, za_43, za_44, za_45, za_46, za_47, za_48, za_49, za_61, za_62, za_63, za_64, za_65, za_71, za_72, za_73, za_74, za_75, za_76, za_77, za_78, za_79, za_80, za_81, za_82, za_83, za_84, za_85, za_86, za_87, za_88, za_89, za_90, za_91, za_92, za_93, za_94, za_95, za_96, za_97, za_98, za_99, za_100, za_101, za_102, za_103, za_104, za_105, za_106, za_107, za_108]
      rfl
    · have hi : i < 1 := hi
      omega
  have hstart : F_X8_looks N m (nI i) (nI j) (nI what) = L_X8_looks_44 N N m2 (nI i) (nI j) (nI what) (nI 1) (nI 0) := by
    have h26 : B_X8_looks_26 N m1 (nI i) (nI j) (nI what) b0 a0 = L_X8_looks_44 N N m2 (nI i) (nI j) (nI what) (nI 1) (nI 0) := by
      unfold B_X8_looks_26 B_X8_looks_39
      have e35 : m1 70 35 = nI 0 := by rw [hm1, mup_s]
      have gP : F_X8_placeOf N m1 a0 b0 nM (nI 0) = some (nI 0, m2) := by
        unfold F_X8_placeOf
        obtain ⟨g, hg⟩ : ∃ g, N = g + 1 := ⟨N - 1, by omega⟩
        have : ∀ F, F = g + 1 → L_X8_placeOf_3 N F m1 a0 b0 nM (nI 0) (nI 0) = some (nI 0, m2) := by
          rintro F rfl
          show S_X8_placeOf_3 N (L_X8_placeOf_3 N g) m1 a0 b0 nM (nI 0) (nI 0) = _
          unfold S_X8_placeOf_3
          simp (disch := omega) only [zi_t, zi_f, bnd_t, zg_in, zx, nI_ltI, nI_leI, nI_eq, nI_add, pk_mul, pk_sub, mup_s, mup_c, mup_j, mrw_c, if_pos, if_neg, zm_1, zm_2, zm_3, zm_4, zm_5, zm_6, zm_7, zm_8, zm_9, zf_0, zf_1, zf_2, zf_3, zf_4, zf_5, zf_6, zf_7, zf_8, zf_9, zf_10, zf_14, zf_15, zf_16, zf_18, zf_19, zf_20, zf_24, zf_30, zf_31, zf_32, zf_33, zf_99, zf_100, zf_160, zf_200, zf_287, zf_288, zf_300, zf_1000, zf_1023, zf_1024, zf_1600, zf_3840, zf_25600, zf_36000, zf_1000000, zf_1000000000, zf_2000000000, zf_11560, za_1, za_2, za_4, za_5, za_6, za_7, za_8, za_9, za_10, za_11, za_12, za_14, za_15, za_22, za_23, za_25, za_26, za_27, za_28, za_29, za_30, za_31, za_32, za_33, za_34, za_35, za_41, za_42, za_43, za_44, za_45, za_46, za_47, za_48, za_49, za_61, za_62, za_63, za_64, za_65, za_71, za_72, za_73, za_74, za_75, za_76, za_77, za_78, za_79, za_80, za_81, za_82, za_83, za_84, za_85, za_86, za_87, za_88, za_89, za_90, za_91, za_92, za_93, za_94, za_95, za_96, za_97, za_98, za_99, za_100, za_101, za_102, za_103, za_104, za_105, za_106, za_107, za_108, e35]
          rw [hm2]
        exact this N hg
      have gP' : F_X8_placeOf N m1 a0 b0 (-1) 0 = some (nI 0, m2) := gP
      rw [cal_t gP']
      simp (disch := omega) only [zi_t, zi_f, bnd_t, zg_in, zx, nI_ltI, nI_leI, nI_eq, nI_add, pk_mul, pk_sub, mup_s, mup_c, mup_j, mrw_c, if_pos, if_neg, zm_1, zm_2, zm_3, zm_4, zm_5, zm_6, zm_7, zm_8, zm_9, zf_0, zf_1, zf_2, zf_3, zf_4, zf_5, zf_6, zf_7, zf_8, zf_9, zf_10, zf_14, zf_15, zf_16, zf_18, zf_19, zf_20, zf_24, zf_30, zf_31, zf_32, zf_33, zf_99, zf_100, zf_160, zf_200, zf_287, zf_288, zf_300, zf_1000, zf_1023, zf_1024, zf_1600, zf_3840, zf_25600, zf_36000, zf_1000000, zf_1000000000, zf_2000000000, zf_11560, za_1, za_2, za_4, za_5, za_6, za_7, za_8, za_9, za_10, za_11, za_12, za_14, za_15, za_22, za_23, za_25, za_26, za_27, za_28, za_29, za_30, za_31, za_32, za_33, za_34, za_35, za_41, za_42, za_43, za_44, za_45, za_46, za_47, za_48, za_49, za_61, za_62, za_63, za_64, za_65, za_71, za_72, za_73, za_74, za_75, za_76, za_77, za_78, za_79, za_80, za_81, za_82, za_83, za_84, za_85, za_86, za_87, za_88, za_89, za_90, za_91, za_92, za_93, za_94, za_95, za_96, za_97, za_98, za_99, za_100, za_101, za_102, za_103, za_104, za_105, za_106, za_107, za_108]
    unfold F_X8_looks
    show cal (F_X8_closed N (mup m 70 35 (nI 0)) (nI i) (nI 1)) _ = _
    rw [← hm1, cal_t (hFa m1 f1), ← h26]
    by_cases c0 : what = 0
    · have hb0 := hFb0 c0
      rw [hb0]
      simp (disch := omega) only [zi_t, zi_f, bnd_t, zg_in, zx, nI_ltI, nI_leI, nI_eq, nI_add, pk_mul, pk_sub, mup_s, mup_c, mup_j, mrw_c, if_pos, if_neg, zm_1, zm_2, zm_3, zm_4, zm_5, zm_6, zm_7, zm_8, zm_9, zf_0, zf_1, zf_2, zf_3, zf_4, zf_5, zf_6, zf_7, zf_8, zf_9, zf_10, zf_14, zf_15, zf_16, zf_18, zf_19, zf_20, zf_24, zf_30, zf_31, zf_32, zf_33, zf_99, zf_100, zf_160, zf_200, zf_287, zf_288, zf_300, zf_1000, zf_1023, zf_1024, zf_1600, zf_3840, zf_25600, zf_36000, zf_1000000, zf_1000000000, zf_2000000000, zf_11560, za_1, za_2, za_4, za_5, za_6, za_7, za_8, za_9, za_10, za_11, za_12, za_14, za_15, za_22, za_23, za_25, za_26, za_27, za_28, za_29, za_30, za_31, za_32, za_33, za_34, za_35, za_41, za_42, za_43, za_44, za_45, za_46, za_47, za_48, za_49, za_61, za_62, za_63, za_64, za_65, za_71, za_72, za_73, za_74, za_75, za_76, za_77, za_78, za_79, za_80, za_81, za_82, za_83, za_84, za_85, za_86, za_87, za_88, za_89, za_90, za_91, za_92, za_93, za_94, za_95, za_96, za_97, za_98, za_99, za_100, za_101, za_102, za_103, za_104, za_105, za_106, za_107, za_108, c0]
    · have c0' : ¬ nI what = nI 0 := fun h => c0 ((nI_eq (b := 0) (by omega) (by omega)).mp h)
      simp (disch := omega) only [zi_t, zi_f, bnd_t, zg_in, zx, nI_ltI, nI_leI, nI_eq, nI_add, pk_mul, pk_sub, mup_s, mup_c, mup_j, mrw_c, if_pos, if_neg, zm_1, zm_2, zm_3, zm_4, zm_5, zm_6, zm_7, zm_8, zm_9, zf_0, zf_1, zf_2, zf_3, zf_4, zf_5, zf_6, zf_7, zf_8, zf_9, zf_10, zf_14, zf_15, zf_16, zf_18, zf_19, zf_20, zf_24, zf_30, zf_31, zf_32, zf_33, zf_99, zf_100, zf_160, zf_200, zf_287, zf_288, zf_300, zf_1000, zf_1023, zf_1024, zf_1600, zf_3840, zf_25600, zf_36000, zf_1000000, zf_1000000000, zf_2000000000, zf_11560, za_1, za_2, za_4, za_5, za_6, za_7, za_8, za_9, za_10, za_11, za_12, za_14, za_15, za_22, za_23, za_25, za_26, za_27, za_28, za_29, za_30, za_31, za_32, za_33, za_34, za_35, za_41, za_42, za_43, za_44, za_45, za_46, za_47, za_48, za_49, za_61, za_62, za_63, za_64, za_65, za_71, za_72, za_73, za_74, za_75, za_76, za_77, za_78, za_79, za_80, za_81, za_82, za_83, za_84, za_85, za_86, za_87, za_88, za_89, za_90, za_91, za_92, za_93, za_94, za_95, za_96, za_97, za_98, za_99, za_100, za_101, za_102, za_103, za_104, za_105, za_106, za_107, za_108, c0']
      rw [cal_t (hFb c0 m1 f1)]
  rw [hstart]
  refine loopF (σ := Mem × Bool) (fun f s k => L_X8_looks_44 N f s.1 (nI i) (nI j) (nI what) (bI s.2) (nI k)) 201 (fun k m' => Fx 92 97 [35] m m'.1 ∧ ((m'.2 = true ∧ ∃ s, exR fA fB (kpW (wnW what)) a0 b0 k = some s ∧ k ≤ s.1.length ∧ s.1.length ≤ 200 ∧ MX m'.1 s (8 * k)) ∨ (m'.2 = false ∧ exR fA fB (kpW (wnW what)) a0 b0 200 = none ∧ ∃ l, m'.1 70 35 = nI l ∧ l ≤ 200))) (fun o => ∃ m', Fx 92 97 [35] m m' ∧ ((exR fA fB (kpW (wnW what)) a0 b0 200 = none ∧ o = some (nI 0, m')) ∨ ∃ s, exR fA fB (kpW (wnW what)) a0 b0 200 = some s ∧ o = some (nI 1, m') ∧ MX m' s (8 * s.1.length) ∧ s.1.length ≤ 200)) ?_ ?_ N 0 (m2, true) (by omega) ⟨f2, Or.inl ⟨rfl, exI a0 b0, rfl, Nat.zero_le _, by show 1 ≤ 200; omega, c2⟩⟩ (by omega)
  · rintro f k ⟨m3, fl⟩ hk ⟨g5, hI⟩
    dsimp only at g5 hI
    rcases hI with ⟨rfl, s, g1, g2, g3, g4⟩ | ⟨rfl, g1, l, g2, g3⟩
    · have h35 := g4.1
      by_cases hkl : k < s.1.length
      · have hR : exR fA fB (kpW (wnW what)) a0 b0 (k + 1) = exX fA fB (kpW (wnW what)) s k 8 := by
          show (exR fA fB (kpW (wnW what)) a0 b0 k).bind _ = _
          rw [g1]
          show (if k < s.1.length then exX fA fB (kpW (wnW what)) s k 8 else some s) = _
          rw [if_pos hkl]
        have hstep : L_X8_looks_44 N (f + 1) m3 (nI i) (nI j) (nI what) (bI true) (nI k) = L_X8_looks_61 N (L_X8_looks_44 N f) N m3 (nI i) (nI j) (nI what) (nI 1) (nI k) (nI 0) := by
          show S_X8_looks_44 N (L_X8_looks_44 N f) m3 (nI i) (nI j) (nI what) (bI true) (nI k) = _
          unfold S_X8_looks_44
          simp (disch := omega) only [zi_t, zi_f, bnd_t, zg_in, zx, nI_ltI, nI_leI, nI_eq, nI_add, pk_mul, pk_sub, mup_s, mup_c, mup_j, mrw_c, if_pos, if_neg, zm_1, zm_2, zm_3, zm_4, zm_5, zm_6, zm_7, zm_8, zm_9, zf_0, zf_1, zf_2, zf_3, zf_4, zf_5, zf_6, zf_7, zf_8, zf_9, zf_10, zf_14, zf_15, zf_16, zf_18, zf_19, zf_20, zf_24, zf_30, zf_31, zf_32, zf_33, zf_99, zf_100, zf_160, zf_200, zf_287, zf_288, zf_300, zf_1000, zf_1023, zf_1024, zf_1600, zf_3840, zf_25600, zf_36000, zf_1000000, zf_1000000000, zf_2000000000, zf_11560, za_1, za_2, za_4, za_5, za_6, za_7, za_8, za_9, za_10, za_11, za_12, za_14, za_15, za_22, za_23, za_25, za_26, za_27, za_28, za_29, za_30, za_31, za_32, za_33, za_34, za_35, za_41, za_42, za_43, za_44, za_45, za_46, za_47, za_48, za_49, za_61, za_62, za_63, za_64, za_65, za_71, za_72, za_73, za_74, za_75, za_76, za_77, za_78, za_79, za_80, za_81, za_82, za_83, za_84, za_85, za_86, za_87, za_88, za_89, za_90, za_91, za_92, za_93, za_94, za_95, za_96, za_97, za_98, za_99, za_100, za_101, za_102, za_103, za_104, za_105, za_106, za_107, za_108, h35, bI_t]
        refine Or.inl ?_
        show ∃ s' : Mem × Bool, _ ∧ L_X8_looks_44 N (f + 1) m3 (nI i) (nI j) (nI what) (bI true) (nI k) = _
        rw [hstep]
        refine loopF (σ := Mem × Bool) (fun g s x => L_X8_looks_61 N (L_X8_looks_44 N f) g s.1 (nI i) (nI j) (nI what) (bI s.2) (nI k) (nI x)) 8 (fun x m' => Fx 92 97 [35] m m'.1 ∧ ((m'.2 = true ∧ ∃ s', exX fA fB (kpW (wnW what)) s k x = some s' ∧ k < s'.1.length ∧ s'.1.length ≤ 200 ∧ MX m'.1 s' (8 * k + x)) ∨ (m'.2 = false ∧ exR fA fB (kpW (wnW what)) a0 b0 200 = none ∧ ∃ l, m'.1 70 35 = nI l ∧ l ≤ 200)))
          (fun o => ∃ s' : Mem × Bool, (Fx 92 97 [35] m s'.1 ∧ ((s'.2 = true ∧ ∃ s, exR fA fB (kpW (wnW what)) a0 b0 (k + 1) = some s ∧ k + 1 ≤ s.1.length ∧ s.1.length ≤ 200 ∧ MX s'.1 s (8 * (k + 1))) ∨ (s'.2 = false ∧ exR fA fB (kpW (wnW what)) a0 b0 200 = none ∧ ∃ l, s'.1 70 35 = nI l ∧ l ≤ 200))) ∧ o = L_X8_looks_44 N f s'.1 (nI i) (nI j) (nI what) (bI s'.2) (nI (k + 1))) ?_ ?_ N 0 (m3, true) (by omega) ⟨g5, Or.inl ⟨rfl, s, rfl, hkl, g3, g4⟩⟩ (by omega)
        · rintro g x ⟨m4, fl⟩ hx ⟨k5, hI⟩
          dsimp only at k5 hI
          rcases hI with ⟨rfl, s', k1, k2, k3, k4⟩ | ⟨rfl, k1, l, k2, k3⟩
          · obtain ⟨m5, p1, p2⟩ := mo_exStep (r44 := L_X8_looks_44 N f) (r61 := L_X8_looks_61 N (L_X8_looks_44 N f) g) hN hA hB hB0 hwh k5 k4 k2 k3 hx
            have hX : exX fA fB (kpW (wnW what)) s k (x + 1) = exL fA fB (kpW (wnW what)) s' k x := by
              show (exX fA fB (kpW (wnW what)) s k x).bind _ = _
              rw [k1]; rfl
            rcases p2 with ⟨p2, p3, pl⟩ | ⟨s'', p2, p3, p4⟩
            · have h8 : exX fA fB (kpW (wnW what)) s k 8 = none := by
                have := exX_none (hX.trans p2) (8 - (x + 1))
                rwa [show x + 1 + (8 - (x + 1)) = 8 by omega] at this
              have h9 := exR_none (hR.trans h8) (200 - (k + 1))
              rw [show k + 1 + (200 - (k + 1)) = 200 by omega] at h9
              exact Or.inl ⟨(m5, false), ⟨p1, Or.inr ⟨rfl, h9, pl⟩⟩, p3⟩
            · have hlen := exL_len p2 k3
              exact Or.inl ⟨(m5, true), ⟨p1, Or.inl ⟨rfl, s'', hX.trans p2, by omega, hlen.2, p3⟩⟩, p4⟩
          · refine Or.inr ⟨(m4, false), ⟨k5, Or.inr ⟨rfl, k1, l, k2, k3⟩⟩, ?_⟩
            show S_X8_looks_61 N (L_X8_looks_44 N f) (L_X8_looks_61 N (L_X8_looks_44 N f) g) m4 (nI i) (nI j) (nI what) (bI false) (nI k) (nI x) = _
            unfold S_X8_looks_61 B_X8_looks_193
            simp (disch := omega) only [zi_t, zi_f, bnd_t, zg_in, zx, nI_ltI, nI_leI, nI_eq, nI_add, pk_mul, pk_sub, mup_s, mup_c, mup_j, mrw_c, if_pos, if_neg, zm_1, zm_2, zm_3, zm_4, zm_5, zm_6, zm_7, zm_8, zm_9, zf_0, zf_1, zf_2, zf_3, zf_4, zf_5, zf_6, zf_7, zf_8, zf_9, zf_10, zf_14, zf_15, zf_16, zf_18, zf_19, zf_20, zf_24, zf_30, zf_31, zf_32, zf_33, zf_99, zf_100, zf_160, zf_200, zf_287, zf_288, zf_300, zf_1000, zf_1023, zf_1024, zf_1600, zf_3840, zf_25600, zf_36000, zf_1000000, zf_1000000000, zf_2000000000, zf_11560, za_1, za_2, za_4, za_5, za_6, za_7, za_8, za_9, za_10, za_11, za_12, za_14, za_15, za_22, za_23, za_25, za_26, za_27, za_28, za_29, za_30, za_31, za_32, za_33, za_34, za_35, za_41, za_42, za_43, za_44, za_45, za_46, za_47, za_48, za_49, za_61, za_62, za_63, za_64, za_65, za_71, za_72, za_73, za_74, za_75, za_76, za_77, za_78, za_79, za_80, za_81, za_82, za_83, za_84, za_85, za_86, za_87, za_88, za_89, za_90, za_91, za_92, za_93, za_94, za_95, za_96, za_97, za_98, za_99, za_100, za_101, za_102, za_103, za_104, za_105, za_106, za_107, za_108, bI_f]
        · rintro g ⟨m4, fl⟩ ⟨k5, hI⟩
          dsimp only at k5 hI
          refine ⟨(m4, fl), ⟨k5, ?_⟩, ?_⟩
          · rcases hI with ⟨rfl, s', k1, k2, k3, k4⟩ | ⟨rfl, k1, l, k2, k3⟩
            · exact Or.inl ⟨rfl, s', hR.trans k1, by omega, k3, k4⟩
            · exact Or.inr ⟨rfl, k1, l, k2, k3⟩
          · show S_X8_looks_61 N (L_X8_looks_44 N f) (L_X8_looks_61 N (L_X8_looks_44 N f) g) m4 (nI i) (nI j) (nI what) (bI fl) (nI k) (nI 8) = _
            unfold S_X8_looks_61 B_X8_looks_193
            simp (disch := omega) only [zi_t, zi_f, bnd_t, zg_in, zx, nI_ltI, nI_leI, nI_eq, nI_add, pk_mul, pk_sub, mup_s, mup_c, mup_j, mrw_c, if_pos, if_neg, zm_1, zm_2, zm_3, zm_4, zm_5, zm_6, zm_7, zm_8, zm_9, zf_0, zf_1, zf_2, zf_3, zf_4, zf_5, zf_6, zf_7, zf_8, zf_9, zf_10, zf_14, zf_15, zf_16, zf_18, zf_19, zf_20, zf_24, zf_30, zf_31, zf_32, zf_33, zf_99, zf_100, zf_160, zf_200, zf_287, zf_288, zf_300, zf_1000, zf_1023, zf_1024, zf_1600, zf_3840, zf_25600, zf_36000, zf_1000000, zf_1000000000, zf_2000000000, zf_11560, za_1, za_2, za_4, za_5, za_6, za_7, za_8, za_9, za_10, za_11, za_12, za_14, za_15, za_22, za_23, za_25, za_26, za_27, za_28, za_29, za_30, za_31, za_32, za_33, za_34, za_35, za_41, za_42, za_43, za_44, za_45, za_46, za_47, za_48, za_49, za_61, za_62, za_63, za_64, za_65, za_71, za_72, za_73, za_74, za_75, za_76, za_77, za_78, za_79, za_80, za_81, za_82, za_83, za_84, za_85, za_86, za_87, za_88, za_89, za_90, za_91, za_92, za_93, za_94, za_95, za_96, za_97, za_98, za_99, za_100, za_101, za_102, za_103, za_104, za_105, za_106, za_107, za_108]
      · have hke : k = s.1.length := by omega
        have hend := exR_end g1 (by omega) (200 - k)
        rw [show k + (200 - k) = 200 by omega] at hend
        refine Or.inr ⟨m3, g5, Or.inr ⟨s, hend, ?_, by rw [← hke]; exact g4, g3⟩⟩
        show S_X8_looks_44 N (L_X8_looks_44 N f) m3 (nI i) (nI j) (nI what) (bI true) (nI k) = _
        unfold S_X8_looks_44 B_X8_looks_199
        simp (disch := omega) only [zi_t, zi_f, bnd_t, zg_in, zx, nI_ltI, nI_leI, nI_eq, nI_add, pk_mul, pk_sub, mup_s, mup_c, mup_j, mrw_c, if_pos, if_neg, zm_1, zm_2, zm_3, zm_4, zm_5, zm_6, zm_7, zm_8, zm_9, zf_0, zf_1, zf_2, zf_3, zf_4, zf_5, zf_6, zf_7, zf_8, zf_9, zf_10, zf_14, zf_15, zf_16, zf_18, zf_19, zf_20, zf_24, zf_30, zf_31, zf_32, zf_33, zf_99, zf_100, zf_160, zf_200, zf_287, zf_288, zf_300, zf_1000, zf_1023, zf_1024, zf_1600, zf_3840, zf_25600, zf_36000, zf_1000000, zf_1000000000, zf_2000000000, zf_11560, za_1, za_2, za_4, za_5, za_6, za_7, za_8, za_9, za_10, za_11, za_12, za_14, za_15, za_22, za_23, za_25, za_26, za_27, za_28, za_29, za_30, za_31, za_32, za_33, za_34, za_35, za_41, za_42, za_43, za_44, za_45, za_46, za_47, za_48, za_49, za_61, za_62, za_63, za_64, za_65, za_71, za_72, za_73, za_74, za_75, za_76, za_77, za_78, za_79, za_80, za_81, za_82, za_83, za_84, za_85, za_86, za_87, za_88, za_89, za_90, za_91, za_92, za_93, za_94, za_95, za_96, za_97, za_98, za_99, za_100, za_101, za_102, za_103, za_104, za_105, za_106, za_107, za_108, h35]
        rfl
    · refine Or.inr ⟨m3, g5, Or.inl ⟨g1, ?_⟩⟩
      show S_X8_looks_44 N (L_X8_looks_44 N f) m3 (nI i) (nI j) (nI what) (bI false) (nI k) = _
      unfold S_X8_looks_44 B_X8_looks_199
      by_cases c : l ≤ k
      · simp (disch := omega) only [zi_t, zi_f, bnd_t, zg_in, zx, nI_ltI, nI_leI, nI_eq, nI_add, pk_mul, pk_sub, mup_s, mup_c, mup_j, mrw_c, if_pos, if_neg, zm_1, zm_2, zm_3, zm_4, zm_5, zm_6, zm_7, zm_8, zm_9, zf_0, zf_1, zf_2, zf_3, zf_4, zf_5, zf_6, zf_7, zf_8, zf_9, zf_10, zf_14, zf_15, zf_16, zf_18, zf_19, zf_20, zf_24, zf_30, zf_31, zf_32, zf_33, zf_99, zf_100, zf_160, zf_200, zf_287, zf_288, zf_300, zf_1000, zf_1023, zf_1024, zf_1600, zf_3840, zf_25600, zf_36000, zf_1000000, zf_1000000000, zf_2000000000, zf_11560, za_1, za_2, za_4, za_5, za_6, za_7, za_8, za_9, za_10, za_11, za_12, za_14, za_15, za_22, za_23, za_25, za_26, za_27, za_28, za_29, za_30, za_31, za_32, za_33, za_34, za_35, za_41, za_42, za_43, za_44, za_45, za_46, za_47, za_48, za_49, za_61, za_62, za_63, za_64, za_65, za_71, za_72, za_73, za_74, za_75, za_76, za_77, za_78, za_79, za_80, za_81, za_82, za_83, za_84, za_85, za_86, za_87, za_88, za_89, za_90, za_91, za_92, za_93, za_94, za_95, za_96, za_97, za_98, za_99, za_100, za_101, za_102, za_103, za_104, za_105, za_106, za_107, za_108, g2, bI_f]
        rfl
      · simp (disch := omega) only [zi_t, zi_f, bnd_t, zg_in, zx, nI_ltI, nI_leI, nI_eq, nI_add, pk_mul, pk_sub, mup_s, mup_c, mup_j, mrw_c, if_pos, if_neg, zm_1, zm_2, zm_3, zm_4, zm_5, zm_6, zm_7, zm_8, zm_9, zf_0, zf_1, zf_2, zf_3, zf_4, zf_5, zf_6, zf_7, zf_8, zf_9, zf_10, zf_14, zf_15, zf_16, zf_18, zf_19, zf_20, zf_24, zf_30, zf_31, zf_32, zf_33, zf_99, zf_100, zf_160, zf_200, zf_287, zf_288, zf_300, zf_1000, zf_1023, zf_1024, zf_1600, zf_3840, zf_25600, zf_36000, zf_1000000, zf_1000000000, zf_2000000000, zf_11560, za_1, za_2, za_4, za_5, za_6, za_7, za_8, za_9, za_10, za_11, za_12, za_14, za_15, za_22, za_23, za_25, za_26, za_27, za_28, za_29, za_30, za_31, za_32, za_33, za_34, za_35, za_41, za_42, za_43, za_44, za_45, za_46, za_47, za_48, za_49, za_61, za_62, za_63, za_64, za_65, za_71, za_72, za_73, za_74, za_75, za_76, za_77, za_78, za_79, za_80, za_81, za_82, za_83, za_84, za_85, za_86, za_87, za_88, za_89, za_90, za_91, za_92, za_93, za_94, za_95, za_96, za_97, za_98, za_99, za_100, za_101, za_102, za_103, za_104, za_105, za_106, za_107, za_108, g2, bI_f]
        rfl
  · rintro f ⟨m3, fl⟩ ⟨g5, hI⟩
    dsimp only at g5 hI
    rcases hI with ⟨rfl, s, g1, g2, g3, g4⟩ | ⟨rfl, g1, l, g2, g3⟩
    · omega
    · refine ⟨m3, g5, Or.inl ⟨g1, ?_⟩⟩
      show S_X8_looks_44 N (L_X8_looks_44 N f) m3 (nI i) (nI j) (nI what) (bI false) (nI 201) = _
      unfold S_X8_looks_44 B_X8_looks_199
      simp (disch := omega) only [zi_t, zi_f, bnd_t, zg_in, zx, nI_ltI, nI_leI, nI_eq, nI_add, pk_mul, pk_sub, mup_s, mup_c, mup_j, mrw_c, if_pos, if_neg, zm_1, zm_2, zm_3, zm_4, zm_5, zm_6, zm_7, zm_8, zm_9, zf_0, zf_1, zf_2, zf_3, zf_4, zf_5, zf_6, zf_7, zf_8, zf_9, zf_10, zf_14, zf_15, zf_16, zf_18, zf_19, zf_20, zf_24, zf_30, zf_31, zf_32, zf_33, zf_99, zf_100, zf_160, zf_200, zf_287, zf_288, zf_300, zf_1000, zf_1023, zf_1024, zf_1600, zf_3840, zf_25600, zf_36000, zf_1000000, zf_1000000000, zf_2000000000, zf_11560, za_1, za_2, za_4, za_5, za_6, za_7, za_8, za_9, za_10, za_11, za_12, za_14, za_15, za_22, za_23, za_25, za_26, za_27, za_28, za_29, za_30, za_31, za_32, za_33, za_34, za_35, za_41, za_42, za_43, za_44, za_45, za_46, za_47, za_48, za_49, za_61, za_62, za_63, za_64, za_65, za_71, za_72, za_73, za_74, za_75, za_76, za_77, za_78, za_79, za_80, za_81, za_82, za_83, za_84, za_85, za_86, za_87, za_88, za_89, za_90, za_91, za_92, za_93, za_94, za_95, za_96, za_97, za_98, za_99, za_100, za_101, za_102, za_103, za_104, za_105, za_106, za_107, za_108, g2, bI_f]
      rfl
