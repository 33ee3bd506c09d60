theorem ps_get {P : List PS} {k : Nat} (h : k < P.length) : P[k]? = some (P.getD k (nI 0, nI 0)) := by
  rw [List.getD_eq_getElem?_getD, List.getElem?_eq_getElem h]; rfl
theorem psnoc {P : List PS} {x y : PS} {i : Nat} (h : (P ++ [x])[i]? = some y) : (i < P.length ∧ P[i]? = some y) ∨ (i = P.length ∧ y = x) := by
  rcases snoc_last h with h | h
  · exact Or.inl ⟨(List.getElem?_eq_some_iff.mp h).1, h⟩
  · exact Or.inr h
theorem CX.nx {m : Mem} {s : XS} {J : Nat} {v : Int32} (h : CX m s J) : CX (mup m 29 J v) (s.1, fup s.2.1 J v, s.2.2.1, s.2.2.2) (J + 1) := by
  obtain ⟨h1, h2, h3, h4, h5⟩ := h
  refine ⟨by rw [mup_c (by omega)]; exact h1, fun i p hp => ?_, fun i hi => by rw [mup_c (by omega)]; exact h3 i hi, fun i h1 hi => by rw [mup_c (by omega)]; exact h4 i h1 hi, fun j hj => ?_⟩
  · rw [mup_c (by omega), mup_c (by omega)]; exact h2 i p hp
  · show mup m 29 J v 29 j = if j = J then v else s.2.1 j
    rw [mup_if]
    by_cases e : j = J
    · rw [if_pos e, if_pos e]
    · rw [if_neg e, if_neg e]; exact h5 j (by omega)
theorem CX.add {m : Mem} {s : XS} {J : Nat} {a b : Int32} {k x : Int32} (h : CX m s J) : CX (mup (mup (mup (mup (mup m 27 s.1.length a) 28 s.1.length b) 30 s.1.length k) 31 s.1.length x) 20 8 (nI (s.1.length + 1))) (s.1 ++ [(a, b)], s.2.1, fup s.2.2.1 s.1.length k, fup s.2.2.2 s.1.length x) J := by
  obtain ⟨h1, h2, h3, h4, h5⟩ := h
  refine ⟨?_, fun i p hp => ?_, fun i hi => ?_, fun i i1 hi => ?_, fun j hj => ?_⟩
  · rw [mup_s]
    show _ = nI (s.1 ++ [(a, b)]).length
    rw [List.length_append]; rfl
  · rcases psnoc hp with ⟨hi, hp⟩ | ⟨hi, hp⟩
    · obtain ⟨e1, e2⟩ := h2 i p hp
      constructor
      · simp (disch := omega) only [zi_t, zi_f, bnd_t, zg_in, zx, nI_ltI, nI_leI, nI_eq, nI_add, pk_mul, pk_sub, mup_s, mup_c, mup_j, mrw_c, if_pos, if_neg, zm_1, zm_2, zm_3, zm_4, zm_5, zm_6, zm_7, zm_8, zm_9, zf_0, zf_1, zf_2, zf_3, zf_4, zf_5, zf_6, zf_7, zf_8, zf_9, zf_10, zf_14, zf_15, zf_16, zf_18, zf_19, zf_20, zf_24, zf_30, zf_31, zf_32, zf_33, zf_99, zf_100, zf_160, zf_200, zf_287, zf_288, zf_300, zf_1000, zf_1023, zf_1024, zf_1600, zf_3840, zf_25600, zf_36000, zf_1000000, zf_1000000000, zf_2000000000, zf_11560, za_1, za_2, za_4, za_5, za_6, za_7, za_8, za_9, za_10, za_11, za_12, za_14, za_15, za_22, za_23, za_25, za_26, za_27, za_28, za_29, za_30, za_31, za_32, za_33, za_34, za_35, za_41, za_42, za_43, za_44, za_45, za_46, za_47, za_48, za_49, za_61, za_62, za_63, za_64, za_65, za_70, e1]
      · simp (disch := omega) only [zi_t, zi_f, bnd_t, zg_in, zx, nI_ltI, nI_leI, nI_eq, nI_add, pk_mul, pk_sub, mup_s, mup_c, mup_j, mrw_c, if_pos, if_neg, zm_1, zm_2, zm_3, zm_4, zm_5, zm_6, zm_7, zm_8, zm_9, zf_0, zf_1, zf_2, zf_3, zf_4, zf_5, zf_6, zf_7, zf_8, zf_9, zf_10, zf_14, zf_15, zf_16, zf_18, zf_19, zf_20, zf_24, zf_30, zf_31, zf_32, zf_33, zf_99, zf_100, zf_160, zf_200, zf_287, zf_288, zf_300, zf_1000, zf_1023, zf_1024, zf_1600, zf_3840, zf_25600, zf_36000, zf_1000000, zf_1000000000, zf_2000000000, zf_11560, za_1, za_2, za_4, za_5, za_6, za_7, za_8, za_9, za_10, za_11, za_12, za_14, za_15, za_22, za_23, za_25, za_26, za_27, za_28, za_29, za_30, za_31, za_32, za_33, za_34, za_35, za_41, za_42, za_43, za_44, za_45, za_46, za_47, za_48, za_49, za_61, za_62, za_63, za_64, za_65, za_70, e2]
    · rw [hi, hp]
      constructor
      · simp (disch := omega) only [zi_t, zi_f, bnd_t, zg_in, zx, nI_ltI, nI_leI, nI_eq, nI_add, pk_mul, pk_sub, mup_s, mup_c, mup_j, mrw_c, if_pos, if_neg, zm_1, zm_2, zm_3, zm_4, zm_5, zm_6, zm_7, zm_8, zm_9, zf_0, zf_1, zf_2, zf_3, zf_4, zf_5, zf_6, zf_7, zf_8, zf_9, zf_10, zf_14, zf_15, zf_16, zf_18, zf_19, zf_20, zf_24, zf_30, zf_31, zf_32, zf_33, zf_99, zf_100, zf_160, zf_200, zf_287, zf_288, zf_300, zf_1000, zf_1023, zf_1024, zf_1600, zf_3840, zf_25600, zf_36000, zf_1000000, zf_1000000000, zf_2000000000, zf_11560, za_1, za_2, za_4, za_5, za_6, za_7, za_8, za_9, za_10, za_11, za_12, za_14, za_15, za_22, za_23, za_25, za_26, za_27, za_28, za_29, za_30, za_31, za_32, za_33, za_34, za_35, za_41, za_42, za_43, za_44, za_45, za_46, za_47, za_48, za_49, za_61, za_62, za_63, za_64, za_65, za_70]
      · simp (disch := omega) only [zi_t, zi_f, bnd_t, zg_in, zx, nI_ltI, nI_leI, nI_eq, nI_add, pk_mul, pk_sub, mup_s, mup_c, mup_j, mrw_c, if_pos, if_neg, zm_1, zm_2, zm_3, zm_4, zm_5, zm_6, zm_7, zm_8, zm_9, zf_0, zf_1, zf_2, zf_3, zf_4, zf_5, zf_6, zf_7, zf_8, zf_9, zf_10, zf_14, zf_15, zf_16, zf_18, zf_19, zf_20, zf_24, zf_30, zf_31, zf_32, zf_33, zf_99, zf_100, zf_160, zf_200, zf_287, zf_288, zf_300, zf_1000, zf_1023, zf_1024, zf_1600, zf_3840, zf_25600, zf_36000, zf_1000000, zf_1000000000, zf_2000000000, zf_11560, za_1, za_2, za_4, za_5, za_6, za_7, za_8, za_9, za_10, za_11, za_12, za_14, za_15, za_22, za_23, za_25, za_26, za_27, za_28, za_29, za_30, za_31, za_32, za_33, za_34, za_35, za_41, za_42, za_43, za_44, za_45, za_46, za_47, za_48, za_49, za_61, za_62, za_63, za_64, za_65, za_70]
  · have hi : i < s.1.length + 1 := by
      have := hi
      simp only [List.length_append, List.length_singleton] at this
      exact this
    rw [mup_c (by omega), mup_c (by omega), mup_if]
    show _ = if i = s.1.length then k else s.2.2.1 i
    by_cases e : i = s.1.length
    · rw [if_pos e, if_pos e]
    · rw [if_neg e, if_neg e]
      rw [mup_c (by omega), mup_c (by omega)]
      exact h3 i (by omega)
  · have hi : i < s.1.length + 1 := by
      have := hi
      simp only [List.length_append, List.length_singleton] at this
      exact this
    rw [mup_c (by omega), mup_if]
    show _ = if i = s.1.length then x else s.2.2.2 i
    by_cases e : i = s.1.length
    · rw [if_pos e, if_pos e]
    · rw [if_neg e, if_neg e]
      rw [mup_c (by omega), mup_c (by omega), mup_c (by omega)]
      exact h4 i i1 (by omega)
  · show mup _ 20 8 _ 29 j = s.2.1 j
    rw [mup_c (by omega), mup_c (by omega), mup_c (by omega), mup_c (by omega), mup_c (by omega)]
    exact h5 j hj
theorem cl_exStep {N k x wn : Nat} {m0 m : Mem} {s : XS} {fA fB : Int32 → Nat → Int32} {r28 : Mem → Int32 → Option (Int32 × Mem)} {r45 : Mem → Int32 → Int32 → Option (Int32 × Mem)} (hN : 40000 < N)
    (hA : ∀ m', FrE m0 m' → ∀ v x, x < 8 → F_X6_setBehind N m' 21 v (nI x) = some (fA v x, m')) (hB : ∀ m', FrE m0 m' → ∀ v x, x < 8 → F_X6_setBehind N m' 24 v (nI x) = some (fB v x, m')) (hw : m0 20 2 = nI wn) (hwn : wn < 3)
    (hF : FrE m0 m) (h : CX m s (8 * k + x)) (hk : k < s.1.length) (hl : s.1.length ≤ 200) (hx : x < 8) :
    ∃ m', FrE m0 m' ∧ ((exL fA fB (kpW wn) s k x = none ∧ S_X5_explore_45 N r28 r45 m (nI k) (nI x) = some (nI 0, m')) ∨ ∃ s', exL fA fB (kpW wn) s k x = some s' ∧ CX m' s' (8 * k + (x + 1)) ∧ S_X5_explore_45 N r28 r45 m (nI k) (nI x) = r45 m' (nI k) (nI (x + 1))) := by
  obtain ⟨p, hp⟩ : ∃ p, p = s.1.getD k (nI 0, nI 0) := ⟨_, rfl⟩
  obtain ⟨e1, e2⟩ := h.2.1 k _ (ps_get hk)
  rw [← hp] at e1 e2
  obtain ⟨a, ha⟩ : ∃ a, a = fA p.1 x := ⟨_, rfl⟩
  obtain ⟨b, hb⟩ : ∃ b, b = fB p.2 x := ⟨_, rfl⟩
  have gA := hA m hF p.1 x hx
  have gB := hB m hF p.2 x hx
  rw [← ha] at gA
  rw [← hb] at gB
  have gL := cl_lookedAt (N := N) (a := a) (b := b) (m := m) (by rw [hF.2 2 (by omega)]; exact hw) hwn
  have gP := cl_placeOf (N := N) (a := a) (b := b) hN h hl
  have hpl := ixp_le s.1 (a, b)
  have hex : exL fA fB (kpW wn) s k x = if kpW wn a b = true then (if ixp s.1 (a, b) < s.1.length then some (s.1, fup s.2.1 (8 * k + x) (nI (ixp s.1 (a, b))), s.2.2.1, s.2.2.2) else if s.1.length < 200 then some (s.1 ++ [(a, b)], fup s.2.1 (8 * k + x) (nI s.1.length), fup s.2.2.1 s.1.length (nI k), fup s.2.2.2 s.1.length (nI x)) else none) else some (s.1, fup s.2.1 (8 * k + x) nM, s.2.2.1, s.2.2.2) := by
    rw [ha, hb, hp]; rfl
  have eJ : k * 8 + x = 8 * k + x := by omega
  rw [hex]
  have h20 := h.1
  cases hkp : kpW wn a b with
  | false =>
    rw [hkp, bI_f] at gL
    refine ⟨mup m 29 (8 * k + x) nM, hF.up (by omega) (by omega), Or.inr ⟨_, if_neg (by simp), h.nx, ?_⟩⟩
    unfold S_X5_explore_45
    simp (disch := omega) only [zi_t, zi_f, bnd_t, zg_in, zx, nI_ltI, nI_leI, nI_eq, nI_add, pk_mul, pk_sub, mup_s, mup_c, mup_j, mrw_c, if_pos, if_neg, zm_1, zm_2, zm_3, zm_4, zm_5, zm_6, zm_7, zm_8, zm_9, zf_0, zf_1, zf_2, zf_3, zf_4, zf_5, zf_6, zf_7, zf_8, zf_9, zf_10, zf_14, zf_15, zf_16, zf_18, zf_19, zf_20, zf_24, zf_30, zf_31, zf_32, zf_33, zf_99, zf_100, zf_160, zf_200, zf_287, zf_288, zf_300, zf_1000, zf_1023, zf_1024, zf_1600, zf_3840, zf_25600, zf_36000, zf_1000000, zf_1000000000, zf_2000000000, zf_11560, za_1, za_2, za_4, za_5, za_6, za_7, za_8, za_9, za_10, za_11, za_12, za_14, za_15, za_22, za_23, za_25, za_26, za_27, za_28, za_29, za_30, za_31, za_32, za_33, za_34, za_35, za_41, za_42, za_43, za_44, za_45, za_46, za_47, za_48, za_49, za_61, za_62, za_63, za_64, za_65, za_70, e1]
    rw [cal_t gA]
    simp (disch := omega) only [zi_t, zi_f, bnd_t, zg_in, zx, nI_ltI, nI_leI, nI_eq, nI_add, pk_mul, pk_sub, mup_s, mup_c, mup_j, mrw_c, if_pos, if_neg, zm_1, zm_2, zm_3, zm_4, zm_5, zm_6, zm_7, zm_8, zm_9, zf_0, zf_1, zf_2, zf_3, zf_4, zf_5, zf_6, zf_7, zf_8, zf_9, zf_10, zf_14, zf_15, zf_16, zf_18, zf_19, zf_20, zf_24, zf_30, zf_31, zf_32, zf_33, zf_99, zf_100, zf_160, zf_200, zf_287, zf_288, zf_300, zf_1000, zf_1023, zf_1024, zf_1600, zf_3840, zf_25600, zf_36000, zf_1000000, zf_1000000000, zf_2000000000, zf_11560, za_1, za_2, za_4, za_5, za_6, za_7, za_8, za_9, za_10, za_11, za_12, za_14, za_15, za_22, za_23, za_25, za_26, za_27, za_28, za_29, za_30, za_31, za_32, za_33, za_34, za_35, za_41, za_42, za_43, za_44, za_45, za_46, za_47, za_48, za_49, za_61, za_62, za_63, za_64, za_65, za_70, e2]
    rw [cal_t gB, cal_t gL]
    unfold B_X5_explore_127
    simp (disch := omega) only [zi_t, zi_f, bnd_t, zg_in, zx, nI_ltI, nI_leI, nI_eq, nI_add, pk_mul, pk_sub, mup_s, mup_c, mup_j, mrw_c, if_pos, if_neg, zm_1, zm_2, zm_3, zm_4, zm_5, zm_6, zm_7, zm_8, zm_9, zf_0, zf_1, zf_2, zf_3, zf_4, zf_5, zf_6, zf_7, zf_8, zf_9, zf_10, zf_14, zf_15, zf_16, zf_18, zf_19, zf_20, zf_24, zf_30, zf_31, zf_32, zf_33, zf_99, zf_100, zf_160, zf_200, zf_287, zf_288, zf_300, zf_1000, zf_1023, zf_1024, zf_1600, zf_3840, zf_25600, zf_36000, zf_1000000, zf_1000000000, zf_2000000000, zf_11560, za_1, za_2, za_4, za_5, za_6, za_7, za_8, za_9, za_10, za_11, za_12, za_14, za_15, za_22, za_23, za_25, za_26, za_27, za_28, za_29, za_30, za_31, za_32, za_33, za_34, za_35, za_41, za_42, za_43, za_44, za_45, za_46, za_47, za_48, za_49, za_61, za_62, za_63, za_64, za_65, za_70, eJ]
  | true =>
    rw [hkp, bI_t] at gL
    rw [if_pos (show true = true from rfl)]
    by_cases c : ixp s.1 (a, b) < s.1.length
    · refine ⟨mup m 29 (8 * k + x) (nI (ixp s.1 (a, b))), hF.up (by omega) (by omega), Or.inr ⟨_, if_pos c, h.nx, ?_⟩⟩
      unfold S_X5_explore_45
      simp (disch := omega) only [zi_t, zi_f, bnd_t, zg_in, zx, nI_ltI, nI_leI, nI_eq, nI_add, pk_mul, pk_sub, mup_s, mup_c, mup_j, mrw_c, if_pos, if_neg, zm_1, zm_2, zm_3, zm_4, zm_5, zm_6, zm_7, zm_8, zm_9, zf_0, zf_1, zf_2, zf_3, zf_4, zf_5, zf_6, zf_7, zf_8, zf_9, zf_10, zf_14, zf_15, zf_16, zf_18, zf_19, zf_20, zf_24, zf_30, zf_31, zf_32, zf_33, zf_99, zf_100, zf_160, zf_200, zf_287, zf_288, zf_300, zf_1000, zf_1023, zf_1024, zf_1600, zf_3840, zf_25600, zf_36000, zf_1000000, zf_1000000000, zf_2000000000, zf_11560, za_1, za_2, za_4, za_5, za_6, za_7, za_8, za_9, za_10, za_11, za_12, za_14, za_15, za_22, za_23, za_25, za_26, za_27, za_28, za_29, za_30, za_31, za_32, za_33, za_34, za_35, za_41, za_42, za_43, za_44, za_45, za_46, za_47, za_48, za_49, za_61, za_62, za_63, za_64, za_65, za_70, e1]
      rw [cal_t gA]
      simp (disch := omega) only [zi_t, zi_f, bnd_t, zg_in, zx, nI_ltI, nI_leI, nI_eq, nI_add, pk_mul, pk_sub, mup_s, mup_c, mup_j, mrw_c, if_pos, if_neg, zm_1, zm_2, zm_3, zm_4, zm_5, zm_6, zm_7, zm_8, zm_9, zf_0, zf_1, zf_2, zf_3, zf_4, zf_5, zf_6, zf_7, zf_8, zf_9, zf_10, zf_14, zf_15, zf_16, zf_18, zf_19, zf_20, zf_24, zf_30, zf_31, zf_32, zf_33, zf_99, zf_100, zf_160, zf_200, zf_287, zf_288, zf_300, zf_1000, zf_1023, zf_1024, zf_1600, zf_3840, zf_25600, zf_36000, zf_1000000, zf_1000000000, zf_2000000000, zf_11560, za_1, za_2, za_4, za_5, za_6, za_7, za_8, za_9, za_10, za_11, za_12, za_14, za_15, za_22, za_23, za_25, za_26, za_27, za_28, za_29, za_30, za_31, za_32, za_33, za_34, za_35, za_41, za_42, za_43, za_44, za_45, za_46, za_47, za_48, za_49, za_61, za_62, za_63, za_64, za_65, za_70, e2]
      rw [cal_t gB, cal_t gL]
      simp (disch := omega) only [zi_t, zi_f, bnd_t, zg_in, zx, nI_ltI, nI_leI, nI_eq, nI_add, pk_mul, pk_sub, mup_s, mup_c, mup_j, mrw_c, if_pos, if_neg, zm_1, zm_2, zm_3, zm_4, zm_5, zm_6, zm_7, zm_8, zm_9, zf_0, zf_1, zf_2, zf_3, zf_4, zf_5, zf_6, zf_7, zf_8, zf_9, zf_10, zf_14, zf_15, zf_16, zf_18, zf_19, zf_20, zf_24, zf_30, zf_31, zf_32, zf_33, zf_99, zf_100, zf_160, zf_200, zf_287, zf_288, zf_300, zf_1000, zf_1023, zf_1024, zf_1600, zf_3840, zf_25600, zf_36000, zf_1000000, zf_1000000000, zf_2000000000, zf_11560, za_1, za_2, za_4, za_5, za_6, za_7, za_8, za_9, za_10, za_11, za_12, za_14, za_15, za_22, za_23, za_25, za_26, za_27, za_28, za_29, za_30, za_31, za_32, za_33, za_34, za_35, za_41, za_42, za_43, za_44, za_45, za_46, za_47, za_48, za_49, za_61, za_62, za_63, za_64, za_65, za_70]
      rw [cal_t gP]
      unfold B_X5_explore_127
      simp (disch := omega) only [zi_t, zi_f, bnd_t, zg_in, zx, nI_ltI, nI_leI, nI_eq, nI_add, pk_mul, pk_sub, mup_s, mup_c, mup_j, mrw_c, if_pos, if_neg, zm_1, zm_2, zm_3, zm_4, zm_5, zm_6, zm_7, zm_8, zm_9, zf_0, zf_1, zf_2, zf_3, zf_4, zf_5, zf_6, zf_7, zf_8, zf_9, zf_10, zf_14, zf_15, zf_16, zf_18, zf_19, zf_20, zf_24, zf_30, zf_31, zf_32, zf_33, zf_99, zf_100, zf_160, zf_200, zf_287, zf_288, zf_300, zf_1000, zf_1023, zf_1024, zf_1600, zf_3840, zf_25600, zf_36000, zf_1000000, zf_1000000000, zf_2000000000, zf_11560, za_1, za_2, za_4, za_5, za_6, za_7, za_8, za_9, za_10, za_11, za_12, za_14, za_15, za_22, za_23, za_25, za_26, za_27, za_28, za_29, za_30, za_31, za_32, za_33, za_34, za_35, za_41, za_42, za_43, za_44, za_45, za_46, za_47, za_48, za_49, za_61, za_62, za_63, za_64, za_65, za_70, h20, eJ]
    · have hc : ixp s.1 (a, b) = s.1.length := by omega
      rw [if_neg c]
      rw [hc] at gP
      by_cases c2 : s.1.length < 200
      · refine ⟨mup (mup (mup (mup (mup (mup m 27 s.1.length a) 28 s.1.length b) 30 s.1.length (nI k)) 31 s.1.length (nI x)) 20 8 (nI (s.1.length + 1))) 29 (8 * k + x) (nI s.1.length), (((((hF.up (by omega) (by omega)).up (by omega) (by omega)).up (by omega) (by omega)).up (by omega) (by omega)).sl).up (by omega) (by omega), Or.inr ⟨_, if_pos c2, (h.add (a := a) (b := b) (k := nI k) (x := nI x)).nx, ?_⟩⟩
        have gAdd : F_X5_addPair N m a b (nI k) (nI x) = some (nI 1, mup (mup (mup (mup (mup m 27 s.1.length a) 28 s.1.length b) 30 s.1.length (nI k)) 31 s.1.length (nI x)) 20 8 (nI (s.1.length + 1))) := by
          unfold F_X5_addPair
          simp (disch := omega) only [zi_t, zi_f, bnd_t, zg_in, zx, nI_ltI, nI_leI, nI_eq, nI_add, pk_mul, pk_sub, mup_s, mup_c, mup_j, mrw_c, if_pos, if_neg, zm_1, zm_2, zm_3, zm_4, zm_5, zm_6, zm_7, zm_8, zm_9, zf_0, zf_1, zf_2, zf_3, zf_4, zf_5, zf_6, zf_7, zf_8, zf_9, zf_10, zf_14, zf_15, zf_16, zf_18, zf_19, zf_20, zf_24, zf_30, zf_31, zf_32, zf_33, zf_99, zf_100, zf_160, zf_200, zf_287, zf_288, zf_300, zf_1000, zf_1023, zf_1024, zf_1600, zf_3840, zf_25600, zf_36000, zf_1000000, zf_1000000000, zf_2000000000, zf_11560, za_1, za_2, za_4, za_5, za_6, za_7, za_8, za_9, za_10, za_11, za_12, za_14, za_15, za_22, za_23, za_25, za_26, za_27, za_28, za_29, za_30, za_31, za_32, za_33, za_34, za_35, za_41, za_42, za_43, za_44, za_45, za_46, za_47, za_48, za_49, za_61, za_62, za_63, za_64, za_65, za_70, h20]
        unfold S_X5_explore_45
        simp (disch := omega) only [zi_t, zi_f, bnd_t, zg_in, zx, nI_ltI, nI_leI, nI_eq, nI_add, pk_mul, pk_sub, mup_s, mup_c, mup_j, mrw_c, if_pos, if_neg, zm_1, zm_2, zm_3, zm_4, zm_5, zm_6, zm_7, zm_8, zm_9, zf_0, zf_1, zf_2, zf_3, zf_4, zf_5, zf_6, zf_7, zf_8, zf_9, zf_10, zf_14, zf_15, zf_16, zf_18, zf_19, zf_20, zf_24, zf_30, zf_31, zf_32, zf_33, zf_99, zf_100, zf_160, zf_200, zf_287, zf_288, zf_300, zf_1000, zf_1023, zf_1024, zf_1600, zf_3840, zf_25600, zf_36000, zf_1000000, zf_1000000000, zf_2000000000, zf_11560, za_1, za_2, za_4, za_5, za_6, za_7, za_8, za_9, za_10, za_11, za_12, za_14, za_15, za_22, za_23, za_25, za_26, za_27, za_28, za_29, za_30, za_31, za_32, za_33, za_34, za_35, za_41, za_42, za_43, za_44, za_45, za_46, za_47, za_48, za_49, za_61, za_62, za_63, za_64, za_65, za_70, e1]
        rw [cal_t gA]
        simp (disch := omega) only [zi_t, zi_f, bnd_t, zg_in, zx, nI_ltI, nI_leI, nI_eq, nI_add, pk_mul, pk_sub, mup_s, mup_c, mup_j, mrw_c, if_pos, if_neg, zm_1, zm_2, zm_3, zm_4, zm_5, zm_6, zm_7, zm_8, zm_9, zf_0, zf_1, zf_2, zf_3, zf_4, zf_5, zf_6, zf_7, zf_8, zf_9, zf_10, zf_14, zf_15, zf_16, zf_18, zf_19, zf_20, zf_24, zf_30, zf_31, zf_32, zf_33, zf_99, zf_100, zf_160, zf_200, zf_287, zf_288, zf_300, zf_1000, zf_1023, zf_1024, zf_1600, zf_3840, zf_25600, zf_36000, zf_1000000, zf_1000000000, zf_2000000000, zf_11560, za_1, za_2, za_4, za_5, za_6, za_7, za_8, za_9, za_10, za_11, za_12, za_14, za_15, za_22, za_23, za_25, za_26, za_27, za_28, za_29, za_30, za_31, za_32, za_33, za_34, za_35, za_41, za_42, za_43, za_44, za_45, za_46, za_47, za_48, za_49, za_61, za_62, za_63, za_64, za_65, za_70, e2]
        rw [cal_t gB, cal_t gL]
        simp (disch := omega) only [zi_t, zi_f, bnd_t, zg_in, zx, nI_ltI, nI_leI, nI_eq, nI_add, pk_mul, pk_sub, mup_s, mup_c, mup_j, mrw_c, if_pos, if_neg, zm_1, zm_2, zm_3, zm_4, zm_5, zm_6, zm_7, zm_8, zm_9, zf_0, zf_1, zf_2, zf_3, zf_4, zf_5, zf_6, zf_7, zf_8, zf_9, zf_10, zf_14, zf_15, zf_16, zf_18, zf_19, zf_20, zf_24, zf_30, zf_31, zf_32, zf_33, zf_99, zf_100, zf_160, zf_200, zf_287, zf_288, zf_300, zf_1000, zf_1023, zf_1024, zf_1600, zf_3840, zf_25600, zf_36000, zf_1000000, zf_1000000000, zf_2000000000, zf_11560, za_1, za_2, za_4, za_5, za_6, za_7, za_8, za_9, za_10, za_11, za_12, za_14, za_15, za_22, za_23, za_25, za_26, za_27, za_28, za_29, za_30, za_31, za_32, za_33, za_34, za_35, za_41, za_42, za_43, za_44, za_45, za_46, za_47, za_48, za_49, za_61, za_62, za_63, za_64, za_65, za_70]
        rw [cal_t gP]
        simp (disch := omega) only [zi_t, zi_f, bnd_t, zg_in, zx, nI_ltI, nI_leI, nI_eq, nI_add, pk_mul, pk_sub, mup_s, mup_c, mup_j, mrw_c, if_pos, if_neg, zm_1, zm_2, zm_3, zm_4, zm_5, zm_6, zm_7, zm_8, zm_9, zf_0, zf_1, zf_2, zf_3, zf_4, zf_5, zf_6, zf_7, zf_8, zf_9, zf_10, zf_14, zf_15, zf_16, zf_18, zf_19, zf_20, zf_24, zf_30, zf_31, zf_32, zf_33, zf_99, zf_100, zf_160, zf_200, zf_287, zf_288, zf_300, zf_1000, zf_1023, zf_1024, zf_1600, zf_3840, zf_25600, zf_36000, zf_1000000, zf_1000000000, zf_2000000000, zf_11560, za_1, za_2, za_4, za_5, za_6, za_7, za_8, za_9, za_10, za_11, za_12, za_14, za_15, za_22, za_23, za_25, za_26, za_27, za_28, za_29, za_30, za_31, za_32, za_33, za_34, za_35, za_41, za_42, za_43, za_44, za_45, za_46, za_47, za_48, za_49, za_61, za_62, za_63, za_64, za_65, za_70, h20]
        rw [cal_t gAdd]
        unfold B_X5_explore_127
        simp (disch := omega) only [zi_t, zi_f, bnd_t, zg_in, zx, nI_ltI, nI_leI, nI_eq, nI_add, pk_mul, pk_sub, mup_s, mup_c, mup_j, mrw_c, if_pos, if_neg, zm_1, zm_2, zm_3, zm_4, zm_5, zm_6, zm_7, zm_8, zm_9, zf_0, zf_1, zf_2, zf_3, zf_4, zf_5, zf_6, zf_7, zf_8, zf_9, zf_10, zf_14, zf_15, zf_16, zf_18, zf_19, zf_20, zf_24, zf_30, zf_31, zf_32, zf_33, zf_99, zf_100, zf_160, zf_200, zf_287, zf_288, zf_300, zf_1000, zf_1023, zf_1024, zf_1600, zf_3840, zf_25600, zf_36000, zf_1000000, zf_1000000000, zf_2000000000, zf_11560, za_1, za_2, za_4, za_5, za_6, za_7, za_8, za_9, za_10, za_11, za_12, za_14, za_15, za_22, za_23, za_25, za_26, za_27, za_28, za_29, za_30, za_31, za_32, za_33, za_34, za_35, za_41, za_42, za_43, za_44, za_45, za_46, za_47, za_48, za_49, za_61, za_62, za_63, za_64, za_65, za_70, eJ]
      · have gAdd : F_X5_addPair N m a b (nI k) (nI x) = some (nI 0, m) := by
          unfold F_X5_addPair
          simp (disch := omega) only [zi_t, zi_f, bnd_t, zg_in, zx, nI_ltI, nI_leI, nI_eq, nI_add, pk_mul, pk_sub, mup_s, mup_c, mup_j, mrw_c, if_pos, if_neg, zm_1, zm_2, zm_3, zm_4, zm_5, zm_6, zm_7, zm_8, zm_9, zf_0, zf_1, zf_2, zf_3, zf_4, zf_5, zf_6, zf_7, zf_8, zf_9, zf_10, zf_14, zf_15, zf_16, zf_18, zf_19, zf_20, zf_24, zf_30, zf_31, zf_32, zf_33, zf_99, zf_100, zf_160, zf_200, zf_287, zf_288, zf_300, zf_1000, zf_1023, zf_1024, zf_1600, zf_3840, zf_25600, zf_36000, zf_1000000, zf_1000000000, zf_2000000000, zf_11560, za_1, za_2, za_4, za_5, za_6, za_7, za_8, za_9, za_10, za_11, za_12, za_14, za_15, za_22, za_23, za_25, za_26, za_27, za_28, za_29, za_30, za_31, za_32, za_33, za_34, za_35, za_41, za_42, za_43, za_44, za_45, za_46, za_47, za_48, za_49, za_61, za_62, za_63, za_64, za_65, za_70, h20]
        refine ⟨m, hF, Or.inl ⟨if_neg c2, ?_⟩⟩
        unfold S_X5_explore_45
        simp (disch := omega) only [zi_t, zi_f, bnd_t, zg_in, zx, nI_ltI, nI_leI, nI_eq, nI_add, pk_mul, pk_sub, mup_s, mup_c, mup_j, mrw_c, if_pos, if_neg, zm_1, zm_2, zm_3, zm_4, zm_5, zm_6, zm_7, zm_8, zm_9, zf_0, zf_1, zf_2, zf_3, zf_4, zf_5, zf_6, zf_7, zf_8, zf_9, zf_10, zf_14, zf_15, zf_16, zf_18, zf_19, zf_20, zf_24, zf_30, zf_31, zf_32, zf_33, zf_99, zf_100, zf_160, zf_200, zf_287, zf_288, zf_300, zf_1000, zf_1023, zf_1024, zf_1600, zf_3840, zf_25600, zf_36000, zf_1000000, zf_1000000000, zf_2000000000, zf_11560, za_1, za_2, za_4, za_5, za_6, za_7, za_8, za_9, za_10, za_11, za_12, za_14, za_15, za_22, za_23, za_25, za_26, za_27, za_28, za_29, za_30, za_31, za_32, za_33, za_34, za_35, za_41, za_42, za_43, za_44, za_45, za_46, za_47, za_48, za_49, za_61, za_62, za_63, za_64, za_65, za_70, e1]
        rw [cal_t gA]
        simp (disch := omega) only [zi_t, zi_f, bnd_t, zg_in, zx, nI_ltI, nI_leI, nI_eq, nI_add, pk_mul, pk_sub, mup_s, mup_c, mup_j, mrw_c, if_pos, if_neg, zm_1, zm_2, zm_3, zm_4, zm_5, zm_6, zm_7, zm_8, zm_9, zf_0, zf_1, zf_2, zf_3, zf_4, zf_5, zf_6, zf_7, zf_8, zf_9, zf_10, zf_14, zf_15, zf_16, zf_18, zf_19, zf_20, zf_24, zf_30, zf_31, zf_32, zf_33, zf_99, zf_100, zf_160, zf_200, zf_287, zf_288, zf_300, zf_1000, zf_1023, zf_1024, zf_1600, zf_3840, zf_25600, zf_36000, zf_1000000, zf_1000000000, zf_2000000000, zf_11560, za_1, za_2, za_4, za_5, za_6, za_7, za_8, za_9, za_10, za_11, za_12, za_14, za_15, za_22, za_23, za_25, za_26, za_27, za_28, za_29, za_30, za_31, za_32, za_33, za_34, za_35, za_41, za_42, za_43, za_44, za_45, za_46, za_47, za_48, za_49, za_61, za_62, za_63, za_64, za_65, za_70, e2]
        rw [cal_t gB, cal_t gL]
        simp (disch := omega) only [zi_t, zi_f, bnd_t, zg_in, zx, nI_ltI, nI_leI, nI_eq, nI_add, pk_mul, pk_sub, mup_s, mup_c, mup_j, mrw_c, if_pos, if_neg, zm_1, zm_2, zm_3, zm_4, zm_5, zm_6, zm_7, zm_8, zm_9, zf_0, zf_1, zf_2, zf_3, zf_4, zf_5, zf_6, zf_7, zf_8, zf_9, zf_10, zf_14, zf_15, zf_16, zf_18, zf_19, zf_20, zf_24, zf_30, zf_31, zf_32, zf_33, zf_99, zf_100, zf_160, zf_200, zf_287, zf_288, zf_300, zf_1000, zf_1023, zf_1024, zf_1600, zf_3840, zf_25600, zf_36000, zf_1000000, zf_1000000000, zf_2000000000, zf_11560, za_1, za_2, za_4, za_5, za_6, za_7, za_8, za_9, za_10, za_11, za_12, za_14, za_15, za_22, za_23, za_25, za_26, za_27, za_28, za_29, za_30, za_31, za_32, za_33, za_34, za_35, za_41, za_42, za_43, za_44, za_45, za_46, za_47, za_48, za_49, za_61, za_62, za_63, za_64, za_65, za_70]
        rw [cal_t gP]
        simp (disch := omega) only [zi_t, zi_f, bnd_t, zg_in, zx, nI_ltI, nI_leI, nI_eq, nI_add, pk_mul, pk_sub, mup_s, mup_c, mup_j, mrw_c, if_pos, if_neg, zm_1, zm_2, zm_3, zm_4, zm_5, zm_6, zm_7, zm_8, zm_9, zf_0, zf_1, zf_2, zf_3, zf_4, zf_5, zf_6, zf_7, zf_8, zf_9, zf_10, zf_14, zf_15, zf_16, zf_18, zf_19, zf_20, zf_24, zf_30, zf_31, zf_32, zf_33, zf_99, zf_100, zf_160, zf_200, zf_287, zf_288, zf_300, zf_1000, zf_1023, zf_1024, zf_1600, zf_3840, zf_25600, zf_36000, zf_1000000, zf_1000000000, zf_2000000000, zf_11560, za_1, za_2, za_4, za_5, za_6, za_7, za_8, za_9, za_10, za_11, za_12, za_14, za_15, za_22, za_23, za_25, za_26, za_27, za_28, za_29, za_30, za_31, za_32, za_33, za_34, za_35, za_41, za_42, za_43, za_44, za_45, za_46, za_47, za_48, za_49, za_61, za_62, za_63, za_64, za_65, za_70, h20]
        rw [cal_t gAdd]
        simp (disch := omega) only [zi_t, zi_f, bnd_t, zg_in, zx, nI_ltI, nI_leI, nI_eq, nI_add, pk_mul, pk_sub, mup_s, mup_c, mup_j, mrw_c, if_pos, if_neg, zm_1, zm_2, zm_3, zm_4, zm_5, zm_6, zm_7, zm_8, zm_9, zf_0, zf_1, zf_2, zf_3, zf_4, zf_5, zf_6, zf_7, zf_8, zf_9, zf_10, zf_14, zf_15, zf_16, zf_18, zf_19, zf_20, zf_24, zf_30, zf_31, zf_32, zf_33, zf_99, zf_100, zf_160, zf_200, zf_287, zf_288, zf_300, zf_1000, zf_1023, zf_1024, zf_1600, zf_3840, zf_25600, zf_36000, zf_1000000, zf_1000000000, zf_2000000000, zf_11560, za_1, za_2, za_4, za_5, za_6, za_7, za_8, za_9, za_10, za_11, za_12, za_14, za_15, za_22, za_23, za_25, za_26, za_27, za_28, za_29, za_30, za_31, za_32, za_33, za_34, za_35, za_41, za_42, za_43, za_44, za_45, za_46, za_47, za_48, za_49, za_61, za_62, za_63, za_64, za_65, za_70]
theorem cl_explore {N wn : Nat} {m : Mem} {a0 b0 : Int32} {fA fB : Int32 → Nat → Int32} (hN : 40000 < N)
    (hA : ∀ m', FrE m m' → ∀ v x, x < 8 → F_X6_setBehind N m' 21 v (nI x) = some (fA v x, m')) (hB : ∀ m', FrE m m' → ∀ v x, x < 8 → F_X6_setBehind N m' 24 v (nI x) = some (fB v x, m'))
    (hFa : ∀ m', FrE m m' → F_X6_firstSet N m' 21 = some (a0, m')) (hFb : ∀ m', FrE m m' → F_X6_firstSet N m' 24 = some (b0, m')) (hw : m 20 2 = nI wn) (hwn : wn < 3) :
    ∃ m', FrE m m' ∧ ((exR fA fB (kpW wn) a0 b0 200 = none ∧ F_X5_explore N m = some (nI 0, m')) ∨ ∃ s, exR fA fB (kpW wn) a0 b0 200 = some s ∧ F_X5_explore N m = some (nI 1, m') ∧ CX m' s (8 * s.1.length) ∧ s.1.length ≤ 200) := by
  obtain ⟨m1, hm1⟩ : ∃ m1, m1 = mup m 20 8 (nI 0) := ⟨_, rfl⟩
  have f1 : FrE m m1 := by rw [hm1]; exact FrE.rf.sl
  obtain ⟨m2, hm2⟩ : ∃ m2, m2 = mup (mup (mup (mup (mup m1 27 0 a0) 28 0 b0) 30 0 nM) 31 0 nM) 20 8 (nI 1) := ⟨_, rfl⟩
  have f2 : FrE m m2 := by rw [hm2]; exact ((((f1.up (by omega) (by omega)).up (by omega) (by omega)).up (by omega) (by omega)).up (by omega) (by omega)).sl
  have c2 : CX m2 (exI a0 b0) (8 * 0) := by
    refine ⟨by rw [hm2, mup_s]; rfl, fun i p hp => ?_, fun i hi => ?_, fun i i1 hi => ?_, fun j hj => absurd hj (Nat.not_lt_zero _)⟩
    · have hi : i < 1 := (List.getElem?_eq_some_iff.mp hp).1
      have hi0 : i = 0 := by omega
      rw [hi0] at hp ⊢
      have : (a0, b0) = p := Option.some.inj hp
      rw [← this, hm2]
      constructor
      · simp (disch := omega) only [zi_t, zi_f, bnd_t, zg_in, zx, nI_ltI, nI_leI, nI_eq, nI_add, pk_mul, pk_sub, mup_s, mup_c, mup_j, mrw_c, if_pos, if_neg, zm_1, zm_2, zm_3, zm_4, zm_5, zm_6, zm_7, zm_8, zm_9, zf_0, zf_1, zf_2, zf_3, zf_4, zf_5, zf_6, zf_7, zf_8, zf_9, zf_10, zf_14, zf_15, zf_16, zf_18, zf_19, zf_20, zf_24, zf_30, zf_31, zf_32, zf_33, zf_99, zf_100, zf_160, zf_200, zf_287, zf_288, zf_300, zf_1000, zf_1023, zf_1024, zf_1600, zf_3840, zf_25600, zf_36000, zf_1000000, zf_1000000000, zf_2000000000, zf_11560, za_1, za_2, za_4, za_5, za_6, za_7, za_8, za_9, za_10, za_11, za_12, za_14, za_15, za_22, za_23, za_25, za_26, za_27, za_28, za_29, za_30, za_31, za_32, za_33, za_34, za_35, za_41, za_42, za_43, za_44, za_45, za_46, za_47, za_48, za_49, za_61, za_62, za_63, za_64, za_65, za_70]
      · simp (disch := omega) only [zi_t, zi_f, bnd_t, zg_in, zx, nI_ltI, nI_leI, nI_eq, nI_add, pk_mul, pk_sub, mup_s, mup_c, mup_j, mrw_c, if_pos, if_neg, zm_1, zm_2, zm_3, zm_4, zm_5, zm_6, zm_7, zm_8, zm_9, zf_0, zf_1, zf_2, zf_3, zf_4, zf_5, zf_6, zf_7, zf_8, zf_9, zf_10, zf_14, zf_15, zf_16, zf_18, zf_19, zf_20, zf_24, zf_30, zf_31, zf_32, zf_33, zf_99, zf_100, zf_160, zf_200, zf_287, zf_288, zf_300, zf_1000, zf_1023, zf_1024, zf_1600, zf_3840, zf_25600, zf_36000, zf_1000000, zf_1000000000, zf_2000000000, zf_11560, za_1, za_2, za_4, za_5, za_6, za_7, za_8, za_9, za_10, za_11, za_12, za_14, za_15, za_22, za_23, za_25, za_26, za_27, za_28, za_29, za_30, za_31, za_32, za_33, za_34, za_35, za_41, za_42, za_43, za_44, za_45, za_46, za_47, za_48, za_49, za_61, za_62, za_63, za_64, za_65, za_70]
    · have hi : i < 1 := hi
      have hi0 : i = 0 := by omega
      rw [hi0, hm2]
      simp (disch := omega) only [zi_t, zi_f, bnd_t, zg_in, zx, nI_ltI, nI_leI, nI_eq, nI_add, pk_mul, pk_sub, mup_s, mup_c, mup_j, mrw_c, if_pos, if_neg, zm_1, zm_2, zm_3, zm_4, zm_5, zm_6, zm_7, zm_8, zm_9, zf_0, zf_1, zf_2, zf_3, zf_4, zf_5, zf_6, zf_7, zf_8, zf_9, zf_10, zf_14, zf_15, zf_16, zf_18, zf_19, zf_20, zf_24, zf_30, zf_31, zf_32, zf_33, zf_99, zf_100, zf_160, zf_200, zf_287, zf_288, zf_300, zf_1000, zf_1023, zf_1024, zf_1600, zf_3840, zf_25600, zf_36000, zf_1000000, zf_1000000000, zf_2000000000, zf_11560, za_1, za_2, za_4, za_5, za_6, za_7, za_8, za_9, za_10, za_11, za_12, za_14, za_15, za_22, za_23, za_25, za_26, za_27, za_28, za_29, za_30, za_31, za_32, za_33, za_34, za_35, za_41, za_42, za_43, za_44, za_45, za_46, za_47, za_48, za_49, za_61, za_62, za_63, za_64, za_65, za_70]
      rfl
    · have hi : i < 1 := hi
      omega
  have hstart : F_X5_explore N m = L_X5_explore_28 N N m2 (nI 0) := by
    unfold F_X5_explore
    show cal (F_X6_firstSet N (mup m 20 8 (nI 0)) 21) _ = _
    rw [← hm1, cal_t (hFa m1 f1), cal_t (hFb m1 f1)]
    have e20 : m1 20 8 = nI 0 := by rw [hm1, mup_s]
    have gAdd : F_X5_addPair N m1 a0 b0 nM nM = some (nI 1, m2) := by
      unfold F_X5_addPair
      simp (disch := omega) only [zi_t, zi_f, bnd_t, zg_in, zx, nI_ltI, nI_leI, nI_eq, nI_add, pk_mul, pk_sub, mup_s, mup_c, mup_j, mrw_c, if_pos, if_neg, zm_1, zm_2, zm_3, zm_4, zm_5, zm_6, zm_7, zm_8, zm_9, zf_0, zf_1, zf_2, zf_3, zf_4, zf_5, zf_6, zf_7, zf_8, zf_9, zf_10, zf_14, zf_15, zf_16, zf_18, zf_19, zf_20, zf_24, zf_30, zf_31, zf_32, zf_33, zf_99, zf_100, zf_160, zf_200, zf_287, zf_288, zf_300, zf_1000, zf_1023, zf_1024, zf_1600, zf_3840, zf_25600, zf_36000, zf_1000000, zf_1000000000, zf_2000000000, zf_11560, za_1, za_2, za_4, za_5, za_6, za_7, za_8, za_9, za_10, za_11, za_12, za_14, za_15, za_22, za_23, za_25, za_26, za_27, za_28, za_29, za_30, za_31, za_32, za_33, za_34, za_35, za_41, za_42, za_43, za_44, za_45, za_46, za_47, za_48, za_49, za_61, za_62, za_63, za_64, za_65, za_70, e20]
      rw [hm2]
    have gAdd' : F_X5_addPair N m1 a0 b0 (-1) (-1) = some (nI 1, m2) := gAdd
    rw [cal_t gAdd']
    rfl
  rw [hstart]
  refine loopF (fun f (m : Mem) k => L_X5_explore_28 N f m (nI k)) 200 (fun k m' => ∃ s, exR fA fB (kpW wn) a0 b0 k = some s ∧ k ≤ s.1.length ∧ s.1.length ≤ 200 ∧ CX m' s (8 * k) ∧ FrE m m') (fun o => ∃ m', FrE m m' ∧ ((exR fA fB (kpW wn) a0 b0 200 = none ∧ o = some (nI 0, m')) ∨ ∃ s, exR fA fB (kpW wn) a0 b0 200 = some s ∧ o = some (nI 1, m') ∧ CX m' s (8 * s.1.length) ∧ s.1.length ≤ 200)) ?_ ?_ N 0 m2 (by omega) ⟨exI a0 b0, rfl, Nat.zero_le _, by show 1 ≤ 200; omega, c2, f2⟩ (by omega)
  · rintro f k m3 hk ⟨s, g1, g2, g3, g4, g5⟩
    have h20 := g4.1
    by_cases hkl : k < s.1.length
    · show (∃ s', _ ∧ S_X5_explore_28 N (L_X5_explore_28 N f) m3 (nI k) = L_X5_explore_28 N f s' (nI (k + 1))) ∨ ∃ m', FrE m m' ∧ ((exR fA fB (kpW wn) a0 b0 200 = none ∧ S_X5_explore_28 N (L_X5_explore_28 N f) m3 (nI k) = some (nI 0, m')) ∨ ∃ s, exR fA fB (kpW wn) a0 b0 200 = some s ∧ S_X5_explore_28 N (L_X5_explore_28 N f) m3 (nI k) = some (nI 1, m') ∧ CX m' s (8 * s.1.length) ∧ s.1.length ≤ 200)
      unfold S_X5_explore_28
      simp (disch := omega) only [zi_t, zi_f, bnd_t, zg_in, zx, nI_ltI, nI_leI, nI_eq, nI_add, pk_mul, pk_sub, mup_s, mup_c, mup_j, mrw_c, if_pos, if_neg, zm_1, zm_2, zm_3, zm_4, zm_5, zm_6, zm_7, zm_8, zm_9, zf_0, zf_1, zf_2, zf_3, zf_4, zf_5, zf_6, zf_7, zf_8, zf_9, zf_10, zf_14, zf_15, zf_16, zf_18, zf_19, zf_20, zf_24, zf_30, zf_31, zf_32, zf_33, zf_99, zf_100, zf_160, zf_200, zf_287, zf_288, zf_300, zf_1000, zf_1023, zf_1024, zf_1600, zf_3840, zf_25600, zf_36000, zf_1000000, zf_1000000000, zf_2000000000, zf_11560, za_1, za_2, za_4, za_5, za_6, za_7, za_8, za_9, za_10, za_11, za_12, za_14, za_15, za_22, za_23, za_25, za_26, za_27, za_28, za_29, za_30, za_31, za_32, za_33, za_34, za_35, za_41, za_42, za_43, za_44, za_45, za_46, za_47, za_48, za_49, za_61, za_62, za_63, za_64, za_65, za_70, h20]
      have hR : exR fA fB (kpW wn) a0 b0 (k + 1) = exX fA fB (kpW wn) s k 8 := by
        show (exR fA fB (kpW wn) a0 b0 k).bind _ = _
        rw [g1]
        show (if k < s.1.length then exX fA fB (kpW wn) s k 8 else some s) = _
        rw [if_pos hkl]
      refine loopF (fun g (m : Mem) x => L_X5_explore_45 N (L_X5_explore_28 N f) g m (nI k) (nI x)) 8 (fun x m' => ∃ s', exX fA fB (kpW wn) s k x = some s' ∧ k < s'.1.length ∧ s'.1.length ≤ 200 ∧ CX m' s' (8 * k + x) ∧ FrE m m')
        (fun o => (∃ m', (∃ s', exR fA fB (kpW wn) a0 b0 (k + 1) = some s' ∧ k + 1 ≤ s'.1.length ∧ s'.1.length ≤ 200 ∧ CX m' s' (8 * (k + 1)) ∧ FrE m m') ∧ o = L_X5_explore_28 N f m' (nI (k + 1))) ∨ ∃ m', FrE m m' ∧ ((exR fA fB (kpW wn) a0 b0 200 = none ∧ o = some (nI 0, m')) ∨ ∃ s, exR fA fB (kpW wn) a0 b0 200 = some s ∧ o = some (nI 1, m') ∧ CX m' s (8 * s.1.length) ∧ s.1.length ≤ 200)) ?_ ?_ N 0 m3 (by omega) ⟨s, rfl, hkl, g3, g4, g5⟩ (by omega)
      · rintro g x m4 hx ⟨s', k1, k2, k3, k4, k5⟩
        obtain ⟨m5, p1, p2⟩ := cl_exStep (r28 := L_X5_explore_28 N f) (r45 := L_X5_explore_45 N (L_X5_explore_28 N f) g) hN hA hB hw hwn k5 k4 k2 k3 hx
        have hX : exX fA fB (kpW wn) s k (x + 1) = exL fA fB (kpW wn) s' k x := by
          show (exX fA fB (kpW wn) s k x).bind _ = _
          rw [k1]; rfl
        rcases p2 with ⟨p2, p3⟩ | ⟨s'', p2, p3, p4⟩
        · refine Or.inr (Or.inr ⟨m5, p1, Or.inl ⟨?_, p3⟩⟩)
          have h8 : exX fA fB (kpW wn) s k 8 = none := by
            have := exX_none (hX.trans p2) (8 - (x + 1))
            rwa [show x + 1 + (8 - (x + 1)) = 8 by omega] at this
          have := exR_none (hR.trans h8) (200 - (k + 1))
          rwa [show k + 1 + (200 - (k + 1)) = 200 by omega] at this
        · have hlen := exL_len p2 k3
          exact Or.inl ⟨m5, ⟨s'', hX.trans p2, by omega, hlen.2, p3, p1⟩, p4⟩
      · rintro g m4 ⟨s', k1, k2, k3, k4, k5⟩
        refine Or.inl ⟨m4, ⟨s', hR.trans k1, by omega, k3, k4, k5⟩, ?_⟩
        show S_X5_explore_45 N (L_X5_explore_28 N f) (L_X5_explore_45 N (L_X5_explore_28 N f) g) m4 (nI k) (nI 8) = _
        unfold S_X5_explore_45
        simp (disch := omega) only [zi_t, zi_f, bnd_t, zg_in, zx, nI_ltI, nI_leI, nI_eq, nI_add, pk_mul, pk_sub, mup_s, mup_c, mup_j, mrw_c, if_pos, if_neg, zm_1, zm_2, zm_3, zm_4, zm_5, zm_6, zm_7, zm_8, zm_9, zf_0, zf_1, zf_2, zf_3, zf_4, zf_5, zf_6, zf_7, zf_8, zf_9, zf_10, zf_14, zf_15, zf_16, zf_18, zf_19, zf_20, zf_24, zf_30, zf_31, zf_32, zf_33, zf_99, zf_100, zf_160, zf_200, zf_287, zf_288, zf_300, zf_1000, zf_1023, zf_1024, zf_1600, zf_3840, zf_25600, zf_36000, zf_1000000, zf_1000000000, zf_2000000000, zf_11560, za_1, za_2, za_4, za_5, za_6, za_7, za_8, za_9, za_10, za_11, za_12, za_14, za_15, za_22, za_23, za_25, za_26, za_27, za_28, za_29, za_30, za_31, za_32, za_33, za_34, za_35, za_41, za_42, za_43, za_44, za_45, za_46, za_47, za_48, za_49, za_61, za_62, za_63, za_64, za_65, za_70]
    · have hke : k = s.1.length := by omega
      have hend := exR_end g1 (by omega) (200 - k)
      rw [show k + (200 - k) = 200 by omega] at hend
      refine Or.inr ⟨m3, g5, Or.inr ⟨s, hend, ?_, by rw [← hke]; exact g4, g3⟩⟩
      show S_X5_explore_28 N (L_X5_explore_28 N f) m3 (nI k) = _
      unfold S_X5_explore_28 B_X5_explore_152
      simp (disch := omega) only [zi_t, zi_f, bnd_t, zg_in, zx, nI_ltI, nI_leI, nI_eq, nI_add, pk_mul, pk_sub, mup_s, mup_c, mup_j, mrw_c, if_pos, if_neg, zm_1, zm_2, zm_3, zm_4, zm_5, zm_6, zm_7, zm_8, zm_9, zf_0, zf_1, zf_2, zf_3, zf_4, zf_5, zf_6, zf_7, zf_8, zf_9, zf_10, zf_14, zf_15, zf_16, zf_18, zf_19, zf_20, zf_24, zf_30, zf_31, zf_32, zf_33, zf_99, zf_100, zf_160, zf_200, zf_287, zf_288, zf_300, zf_1000, zf_1023, zf_1024, zf_1600, zf_3840, zf_25600, zf_36000, zf_1000000, zf_1000000000, zf_2000000000, zf_11560, za_1, za_2, za_4, za_5, za_6, za_7, za_8, za_9, za_10, za_11, za_12, za_14, za_15, za_22, za_23, za_25, za_26, za_27, za_28, za_29, za_30, za_31, za_32, za_33, za_34, za_35, za_41, za_42, za_43, za_44, za_45, za_46, za_47, za_48, za_49, za_61, za_62, za_63, za_64, za_65, za_70, h20]
  · rintro f m3 ⟨s, g1, g2, g3, g4, g5⟩
    have h20 := g4.1
    have hke : s.1.length = 200 := by omega
    refine ⟨m3, g5, Or.inr ⟨s, g1, ?_, by rw [hke]; exact g4, g3⟩⟩
    show S_X5_explore_28 N (L_X5_explore_28 N f) m3 (nI 200) = _
    unfold S_X5_explore_28 B_X5_explore_152
    simp (disch := omega) only [zi_t, zi_f, bnd_t, zg_in, zx, nI_ltI, nI_leI, nI_eq, nI_add, pk_mul, pk_sub, mup_s, mup_c, mup_j, mrw_c, if_pos, if_neg, zm_1, zm_2, zm_3, zm_4, zm_5, zm_6, zm_7, zm_8, zm_9, zf_0, zf_1, zf_2, zf_3, zf_4, zf_5, zf_6, zf_7, zf_8, zf_9, zf_10, zf_14, zf_15, zf_16, zf_18, zf_19, zf_20, zf_24, zf_30, zf_31, zf_32, zf_33, zf_99, zf_100, zf_160, zf_200, zf_287, zf_288, zf_300, zf_1000, zf_1023, zf_1024, zf_1600, zf_3840, zf_25600, zf_36000, zf_1000000, zf_1000000000, zf_2000000000, zf_11560, za_1, za_2, za_4, za_5, za_6, za_7, za_8, za_9, za_10, za_11, za_12, za_14, za_15, za_22, za_23, za_25, za_26, za_27, za_28, za_29, za_30, za_31, za_32, za_33, za_34, za_35, za_41, za_42, za_43, za_44, za_45, za_46, za_47, za_48, za_49, za_61, za_62, za_63, za_64, za_65, za_70, h20]
