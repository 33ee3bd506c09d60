theorem map_take' {f : Nat × Nat → Nat × Nat} {A : ArL} {i : Nat} {q : Nat × Nat} (h : A[i]? = some q) : (A.take (i + 1)).map f = (A.take i).map f ++ [f q] := by
  rw [List.take_add_one, h, List.map_append]; rfl
def tnF (q : Nat × Nat) : Nat × Nat := (pkA (fr q.1) (lwr q.1) (upr q.1) (too q.1), q.2)
def sdF (u : Bool) (q : Nat × Nat) : Nat × Nat := (pkA (fr q.1) (if u = true then upr q.1 else lwr q.1) (if u = true then upr q.1 else lwr q.1) (too q.1), 0)
theorem tn_af {n : Nat} {f : Nat → Bool} {L : ArL} (hA : VM (n, f, L)) : DOK n (L.map tnF) ∧ Acy upr (L.map tnF) ∧ Acy lwr (L.map tnF) := by
  obtain ⟨a1, a2, a3, a4, a5, ⟨ru, hu⟩, ⟨rl, hl⟩⟩ := hA
  have a2 : n ≤ 32 := a2
  refine AF.all (n := n) (ru := rl) (rl := ru) (by omega) ?_
  intro q hq
  obtain ⟨x, hx, rfl⟩ := List.mem_map.mp hq
  obtain ⟨h1, h2, h3, h4, h5, h6⟩ := a5 x hx
  exact ⟨fr x.1, lwr x.1, upr x.1, too x.1, x.2, rfl, h2, h5, h4, h3, h6, hl x hx, hu x hx⟩
theorem sd_af {u : Bool} {n : Nat} {f : Nat → Bool} {L : ArL} (hA : VM (n, f, L)) : DOK n (L.map (sdF u)) ∧ Acy upr (L.map (sdF u)) ∧ Acy lwr (L.map (sdF u)) := by
  obtain ⟨a1, a2, a3, a4, a5, ⟨ru, hu⟩, ⟨rl, hl⟩⟩ := hA
  have a2 : n ≤ 32 := a2
  cases u with
  | true =>
    refine AF.all (n := n) (ru := ru) (rl := ru) (by omega) ?_
    intro q hq
    obtain ⟨x, hx, rfl⟩ := List.mem_map.mp hq
    obtain ⟨h1, h2, h3, h4, h5, h6⟩ := a5 x hx
    exact ⟨fr x.1, upr x.1, upr x.1, too x.1, 0, rfl, h2, h4, h4, h3, by omega, hu x hx, hu x hx⟩
  | false =>
    refine AF.all (n := n) (ru := rl) (rl := rl) (by omega) ?_
    intro q hq
    obtain ⟨x, hx, rfl⟩ := List.mem_map.mp hq
    obtain ⟨h1, h2, h3, h4, h5, h6⟩ := a5 x hx
    exact ⟨fr x.1, lwr x.1, lwr x.1, too x.1, 0, rfl, h2, h5, h5, h3, by omega, hl x hx, hl x hx⟩
theorem cl_turn {N i n : Nat} {f : Nat → Bool} {L : ArL} {m : Mem} {Ms : List Ma} {w : List Nat} {ls : Ls} (hN : 40000 < N) (hA : VM (n, f, L)) (hl : Ms.length ≤ 24) (hi : i < Ms.length) (hC : InC m Ms w ls) (mA : MC m (200 + 4 * i) n (eB f n) L) :
    ∃ md, F_X7_turn N m (nI i) = calx (F_X7_keepDraft N md) (fun r m => some (.inl r, m)) ∧ Off 3 16 m md ∧ DR md n 0 (shE (fun _ => false) f 0 n) (L.map tnF) := by
  obtain ⟨a1, a2, a3, a4, a5, a6, a7⟩ := hA
  have a1 : 1 ≤ n := a1
  have a2 : n ≤ 32 := a2
  have a3 : L.length ≤ 160 := a3
  have a5 : DOK n L := a5
  obtain ⟨m2, c1, c2, c3⟩ := dr_begin' (N := N) (n := n) (st := 0) (m := m) (by omega) (by omega)
  have xA := mA.1
  unfold F_X7_turn
  rw [calx_t (need_ok hC hl hi)]
  simp (disch := omega) only [zi_t, zi_f, bnd_t, zg_in, zx, nI_ltI, nI_leI, nI_eq, nI_add, pk_mul, pk_sub, mup_s, mup_c, mup_j, mrw_c, if_pos, if_neg, zm_1, zm_2, zm_3, zm_4, zm_5, zm_6, zm_7, zm_8, zm_9, zf_0, zf_1, zf_2, zf_3, zf_4, zf_5, zf_6, zf_7, zf_8, zf_9, zf_10, zf_14, zf_15, zf_16, zf_18, zf_19, zf_20, zf_24, zf_30, zf_31, zf_32, zf_33, zf_99, zf_100, zf_160, zf_200, zf_287, zf_288, zf_300, zf_1000, zf_1023, zf_1024, zf_1600, zf_3840, zf_25600, zf_36000, zf_1000000, zf_1000000000, zf_2000000000, zf_11560, za_1, za_2, za_4, za_5, za_6, za_7, za_8, za_9, za_10, za_11, za_12, za_14, za_15, za_22, za_23, za_25, za_26, za_27, za_28, za_29, za_30, za_31, za_32, za_33, za_34, za_35, za_41, za_42, za_43, za_44, za_45, za_46, za_47, za_48, za_49, za_61, za_62, za_63, za_64, za_65, za_70, xA]
  rw [calv_t c1]
  refine loopF (fun F (m : Mem) j => L_X7_turn_26 N F m (200 + 4 * i) (nI j)) L.length (fun j m' => DR m' n 0 (fun _ => false) ((L.take j).map tnF) ∧ Off 3 16 m m') (fun o => ∃ md, o = calx (F_X7_keepDraft N md) (fun r m => some (.inl r, m)) ∧ Off 3 16 m md ∧ DR md n 0 (shE (fun _ => false) f 0 n) (L.map tnF)) ?_ ?_ N 0 m2 (Nat.zero_le _) ⟨c2, c3.wd (by omega) (by omega)⟩ (by omega)
  · rintro F j m1 hj ⟨h1, h2⟩
    obtain ⟨q, hq⟩ : ∃ q, L[j]? = some q := ⟨_, List.getElem?_eq_getElem hj⟩
    have hqm := a5 q (List.mem_of_getElem? hq)
    have hq1 := hqm.1
    have hq2 : q.1 / 262144 < n := hqm.2.1
    have hq3 : q.1 % 1024 < n := hqm.2.2.1
    have hq4 : q.1 / 16384 % 16 ≤ 8 := hqm.2.2.2.1
    have hq5 : q.1 / 1024 % 16 ≤ 8 := hqm.2.2.2.2.1
    have mA1 := mA.off (by omega) h2
    have e1 := mA1.2.2.1
    have e2 := (mA1.2.2.2 j q hq).1
    have e3 := (mA1.2.2.2 j q hq).2
    obtain ⟨m3, g1, g2, g3⟩ := dr_addArc (N := N) (s := q.1 / 262144) (u := q.1 / 1024 % 16) (l := q.1 / 16384 % 16) (t := q.1 % 1024) (c := q.2) h1 (by omega) (by rw [List.length_map, List.length_take]; omega) hq2 hq5 hq4 hq3
    refine Or.inl ⟨m3, ⟨by rw [map_take' hq]; exact g2, h2.tr (g3.wd (by omega) (by omega))⟩, ?_⟩
    show S_X7_turn_26 N (L_X7_turn_26 N F) m1 (200 + 4 * i) (nI j) = _
    unfold S_X7_turn_26
    simp (disch := omega) only [zi_t, zi_f, bnd_t, zg_in, zx, nI_ltI, nI_leI, nI_eq, nI_add, pk_mul, pk_sub, mup_s, mup_c, mup_j, mrw_c, if_pos, if_neg, zm_1, zm_2, zm_3, zm_4, zm_5, zm_6, zm_7, zm_8, zm_9, zf_0, zf_1, zf_2, zf_3, zf_4, zf_5, zf_6, zf_7, zf_8, zf_9, zf_10, zf_14, zf_15, zf_16, zf_18, zf_19, zf_20, zf_24, zf_30, zf_31, zf_32, zf_33, zf_99, zf_100, zf_160, zf_200, zf_287, zf_288, zf_300, zf_1000, zf_1023, zf_1024, zf_1600, zf_3840, zf_25600, zf_36000, zf_1000000, zf_1000000000, zf_2000000000, zf_11560, za_1, za_2, za_4, za_5, za_6, za_7, za_8, za_9, za_10, za_11, za_12, za_14, za_15, za_22, za_23, za_25, za_26, za_27, za_28, za_29, za_30, za_31, za_32, za_33, za_34, za_35, za_41, za_42, za_43, za_44, za_45, za_46, za_47, za_48, za_49, za_61, za_62, za_63, za_64, za_65, za_70, e1, e2, e3, alen_hi, pk_from, pk_to, pk_upper, pk_lower]
    rw [calv_t g1]
  · rintro F m1 ⟨h1, h2⟩
    rw [List.take_of_length_le (Nat.le_refl _)] at h1
    have mA1 := mA.off (by omega) h2
    have e1 := mA1.2.2.1
    obtain ⟨m5, k1, k2, k3⟩ := dr_addEndsOf (N := N) (b := 0) (by omega) h1 (by omega) (by omega) mA1.1 mA1.2.1 a2 (by omega)
    refine ⟨m5, ?_, h2.tr (k3.wd (by omega) (by omega)), k2⟩
    show S_X7_turn_26 N (L_X7_turn_26 N F) m1 (200 + 4 * i) (nI L.length) = _
    unfold S_X7_turn_26
    simp (disch := omega) only [zi_t, zi_f, bnd_t, zg_in, zx, nI_ltI, nI_leI, nI_eq, nI_add, pk_mul, pk_sub, mup_s, mup_c, mup_j, mrw_c, if_pos, if_neg, zm_1, zm_2, zm_3, zm_4, zm_5, zm_6, zm_7, zm_8, zm_9, zf_0, zf_1, zf_2, zf_3, zf_4, zf_5, zf_6, zf_7, zf_8, zf_9, zf_10, zf_14, zf_15, zf_16, zf_18, zf_19, zf_20, zf_24, zf_30, zf_31, zf_32, zf_33, zf_99, zf_100, zf_160, zf_200, zf_287, zf_288, zf_300, zf_1000, zf_1023, zf_1024, zf_1600, zf_3840, zf_25600, zf_36000, zf_1000000, zf_1000000000, zf_2000000000, zf_11560, za_1, za_2, za_4, za_5, za_6, za_7, za_8, za_9, za_10, za_11, za_12, za_14, za_15, za_22, za_23, za_25, za_26, za_27, za_28, za_29, za_30, za_31, za_32, za_33, za_34, za_35, za_41, za_42, za_43, za_44, za_45, za_46, za_47, za_48, za_49, za_61, za_62, za_63, za_64, za_65, za_70, e1]
    rw [calv_t k1]
theorem cl_side {N i n : Nat} {u : Bool} {f : Nat → Bool} {L : ArL} {m : Mem} {Ms : List Ma} {w : List Nat} {ls : Ls} (hN : 40000 < N) (hA : VM (n, f, L)) (hl : Ms.length ≤ 24) (hi : i < Ms.length) (hC : InC m Ms w ls) (mA : MC m (200 + 4 * i) n (eB f n) L) :
    ∃ md, F_X7_side N m (nI i) (bI u) = calx (F_X7_keepDraft N md) (fun r m => some (.inl r, m)) ∧ Off 3 16 m md ∧ DR md n 0 (shE (fun _ => false) f 0 n) (L.map (sdF u)) := by
  obtain ⟨a1, a2, a3, a4, a5, a6, a7⟩ := hA
  have a1 : 1 ≤ n := a1
  have a2 : n ≤ 32 := a2
  have a3 : L.length ≤ 160 := a3
  have a5 : DOK n L := a5
  obtain ⟨m2, c1, c2, c3⟩ := dr_begin' (N := N) (n := n) (st := 0) (m := m) (by omega) (by omega)
  have xA := mA.1
  unfold F_X7_side
  rw [calx_t (need_ok hC hl hi)]
  simp (disch := omega) only [zi_t, zi_f, bnd_t, zg_in, zx, nI_ltI, nI_leI, nI_eq, nI_add, pk_mul, pk_sub, mup_s, mup_c, mup_j, mrw_c, if_pos, if_neg, zm_1, zm_2, zm_3, zm_4, zm_5, zm_6, zm_7, zm_8, zm_9, zf_0, zf_1, zf_2, zf_3, zf_4, zf_5, zf_6, zf_7, zf_8, zf_9, zf_10, zf_14, zf_15, zf_16, zf_18, zf_19, zf_20, zf_24, zf_30, zf_31, zf_32, zf_33, zf_99, zf_100, zf_160, zf_200, zf_287, zf_288, zf_300, zf_1000, zf_1023, zf_1024, zf_1600, zf_3840, zf_25600, zf_36000, zf_1000000, zf_1000000000, zf_2000000000, zf_11560, za_1, za_2, za_4, za_5, za_6, za_7, za_8, za_9, za_10, za_11, za_12, za_14, za_15, za_22, za_23, za_25, za_26, za_27, za_28, za_29, za_30, za_31, za_32, za_33, za_34, za_35, za_41, za_42, za_43, za_44, za_45, za_46, za_47, za_48, za_49, za_61, za_62, za_63, za_64, za_65, za_70, xA]
  rw [calv_t c1]
  refine loopF (fun F (m : Mem) j => L_X7_side_27 N F m (bI u) (200 + 4 * i) (nI j)) L.length (fun j m' => DR m' n 0 (fun _ => false) ((L.take j).map (sdF u)) ∧ Off 3 16 m m') (fun o => ∃ md, o = calx (F_X7_keepDraft N md) (fun r m => some (.inl r, m)) ∧ Off 3 16 m md ∧ DR md n 0 (shE (fun _ => false) f 0 n) (L.map (sdF u))) ?_ ?_ N 0 m2 (Nat.zero_le _) ⟨c2, c3.wd (by omega) (by omega)⟩ (by omega)
  · rintro F j m1 hj ⟨h1, h2⟩
    obtain ⟨q, hq⟩ : ∃ q, L[j]? = some q := ⟨_, List.getElem?_eq_getElem hj⟩
    have hqm := a5 q (List.mem_of_getElem? hq)
    have hq1 := hqm.1
    have hq2 : q.1 / 262144 < n := hqm.2.1
    have hq3 : q.1 % 1024 < n := hqm.2.2.1
    have hq4 : q.1 / 16384 % 16 ≤ 8 := hqm.2.2.2.1
    have hq5 : q.1 / 1024 % 16 ≤ 8 := hqm.2.2.2.2.1
    have mA1 := mA.off (by omega) h2
    have e1 := mA1.2.2.1
    have e2 := (mA1.2.2.2 j q hq).1
    obtain ⟨y, hy⟩ : ∃ y, y = if u = true then q.1 / 16384 % 16 else q.1 / 1024 % 16 := ⟨_, rfl⟩
    have hy8 : y ≤ 8 := by rw [hy]; split <;> omega
    obtain ⟨m3, g1, g2, g3⟩ := dr_addArc (N := N) (s := q.1 / 262144) (u := y) (l := y) (t := q.1 % 1024) (c := 0) h1 (by omega) (by rw [List.length_map, List.length_take]; omega) hq2 hy8 hy8 hq3
    refine Or.inl ⟨m3, ⟨by rw [map_take' hq]; rw [hy] at g2; exact g2, h2.tr (g3.wd (by omega) (by omega))⟩, ?_⟩
    show S_X7_side_27 N (L_X7_side_27 N F) m1 (bI u) (200 + 4 * i) (nI j) = _
    unfold S_X7_side_27 B_X7_side_68
    cases u with
    | true =>
      have e : y = q.1 / 16384 % 16 := hy
      rw [e] at g1
      simp (disch := omega) only [zi_t, zi_f, bnd_t, zg_in, zx, nI_ltI, nI_leI, nI_eq, nI_add, pk_mul, pk_sub, mup_s, mup_c, mup_j, mrw_c, if_pos, if_neg, zm_1, zm_2, zm_3, zm_4, zm_5, zm_6, zm_7, zm_8, zm_9, zf_0, zf_1, zf_2, zf_3, zf_4, zf_5, zf_6, zf_7, zf_8, zf_9, zf_10, zf_14, zf_15, zf_16, zf_18, zf_19, zf_20, zf_24, zf_30, zf_31, zf_32, zf_33, zf_99, zf_100, zf_160, zf_200, zf_287, zf_288, zf_300, zf_1000, zf_1023, zf_1024, zf_1600, zf_3840, zf_25600, zf_36000, zf_1000000, zf_1000000000, zf_2000000000, zf_11560, za_1, za_2, za_4, za_5, za_6, za_7, za_8, za_9, za_10, za_11, za_12, za_14, za_15, za_22, za_23, za_25, za_26, za_27, za_28, za_29, za_30, za_31, za_32, za_33, za_34, za_35, za_41, za_42, za_43, za_44, za_45, za_46, za_47, za_48, za_49, za_61, za_62, za_63, za_64, za_65, za_70, bI_t, e1, e2, alen_hi, pk_from, pk_to, pk_upper, pk_lower]
      rw [calv_t g1]
    | false =>
      have e : y = q.1 / 1024 % 16 := hy
      rw [e] at g1
      simp (disch := omega) only [zi_t, zi_f, bnd_t, zg_in, zx, nI_ltI, nI_leI, nI_eq, nI_add, pk_mul, pk_sub, mup_s, mup_c, mup_j, mrw_c, if_pos, if_neg, zm_1, zm_2, zm_3, zm_4, zm_5, zm_6, zm_7, zm_8, zm_9, zf_0, zf_1, zf_2, zf_3, zf_4, zf_5, zf_6, zf_7, zf_8, zf_9, zf_10, zf_14, zf_15, zf_16, zf_18, zf_19, zf_20, zf_24, zf_30, zf_31, zf_32, zf_33, zf_99, zf_100, zf_160, zf_200, zf_287, zf_288, zf_300, zf_1000, zf_1023, zf_1024, zf_1600, zf_3840, zf_25600, zf_36000, zf_1000000, zf_1000000000, zf_2000000000, zf_11560, za_1, za_2, za_4, za_5, za_6, za_7, za_8, za_9, za_10, za_11, za_12, za_14, za_15, za_22, za_23, za_25, za_26, za_27, za_28, za_29, za_30, za_31, za_32, za_33, za_34, za_35, za_41, za_42, za_43, za_44, za_45, za_46, za_47, za_48, za_49, za_61, za_62, za_63, za_64, za_65, za_70, bI_f, e1, e2, alen_hi, pk_from, pk_to, pk_upper, pk_lower]
      rw [calv_t g1]
  · rintro F m1 ⟨h1, h2⟩
    rw [List.take_of_length_le (Nat.le_refl _)] at h1
    have mA1 := mA.off (by omega) h2
    have e1 := mA1.2.2.1
    obtain ⟨m5, k1, k2, k3⟩ := dr_addEndsOf (N := N) (b := 0) (by omega) h1 (by omega) (by omega) mA1.1 mA1.2.1 a2 (by omega)
    refine ⟨m5, ?_, h2.tr (k3.wd (by omega) (by omega)), k2⟩
    show S_X7_side_27 N (L_X7_side_27 N F) m1 (bI u) (200 + 4 * i) (nI L.length) = _
    unfold S_X7_side_27
    simp (disch := omega) only [zi_t, zi_f, bnd_t, zg_in, zx, nI_ltI, nI_leI, nI_eq, nI_add, pk_mul, pk_sub, mup_s, mup_c, mup_j, mrw_c, if_pos, if_neg, zm_1, zm_2, zm_3, zm_4, zm_5, zm_6, zm_7, zm_8, zm_9, zf_0, zf_1, zf_2, zf_3, zf_4, zf_5, zf_6, zf_7, zf_8, zf_9, zf_10, zf_14, zf_15, zf_16, zf_18, zf_19, zf_20, zf_24, zf_30, zf_31, zf_32, zf_33, zf_99, zf_100, zf_160, zf_200, zf_287, zf_288, zf_300, zf_1000, zf_1023, zf_1024, zf_1600, zf_3840, zf_25600, zf_36000, zf_1000000, zf_1000000000, zf_2000000000, zf_11560, za_1, za_2, za_4, za_5, za_6, za_7, za_8, za_9, za_10, za_11, za_12, za_14, za_15, za_22, za_23, za_25, za_26, za_27, za_28, za_29, za_30, za_31, za_32, za_33, za_34, za_35, za_41, za_42, za_43, za_44, za_45, za_46, za_47, za_48, za_49, za_61, za_62, za_63, za_64, za_65, za_70, e1]
    rw [calv_t k1]
