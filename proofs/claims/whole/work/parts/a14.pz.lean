/-! turn and side -/
theorem map_take' {f : Nat × Nat → Nat × Nat} {A : ArL} {i : Nat} {q : Nat × Nat} (h : A[i]? = some q) : (A.take (i + 1)).map f = (A.take i).map f ++ [f q] := by
  rw [List.take_add_one, h, List.map_append]; rfl
def tnF (q : Nat × Nat) : Nat × Nat := (pkA (fr q.1) (lwr q.1) (upr q.1) (too q.1), q.2)
def sdF (u : Bool) (q : Nat × Nat) : Nat × Nat := (pkA (fr q.1) (if u = true then upr q.1 else lwr q.1) (if u = true then upr q.1 else lwr q.1) (too q.1), 0)
theorem tn_af {n : Nat} {f : Nat → Bool} {L : ArL} (hA : VM (n, f, L)) : DOK n (L.map tnF) ∧ Acy upr (L.map tnF) ∧ Acy lwr (L.map tnF) := by
  obtain ⟨a1, a2, a3, a4, a5, ⟨ru, hu⟩, ⟨rl, hl⟩⟩ := hA
  have a2 : n ≤ 32 := a2
  refine AF.all (n := n) (ru := rl) (rl := ru) (by omega) ?_
  intro q hq
  obtain ⟨x, hx, rfl⟩ := List.mem_map.mp hq
  obtain ⟨h1, h2, h3, h4, h5, h6⟩ := a5 x hx
  exact ⟨fr x.1, lwr x.1, upr x.1, too x.1, x.2, rfl, h2, h5, h4, h3, h6, hl x hx, hu x hx⟩
theorem sd_af {u : Bool} {n : Nat} {f : Nat → Bool} {L : ArL} (hA : VM (n, f, L)) : DOK n (L.map (sdF u)) ∧ Acy upr (L.map (sdF u)) ∧ Acy lwr (L.map (sdF u)) := by
  obtain ⟨a1, a2, a3, a4, a5, ⟨ru, hu⟩, ⟨rl, hl⟩⟩ := hA
  have a2 : n ≤ 32 := a2
  cases u with
  | true =>
    refine AF.all (n := n) (ru := ru) (rl := ru) (by omega) ?_
    intro q hq
    obtain ⟨x, hx, rfl⟩ := List.mem_map.mp hq
    obtain ⟨h1, h2, h3, h4, h5, h6⟩ := a5 x hx
    exact ⟨fr x.1, upr x.1, upr x.1, too x.1, 0, rfl, h2, h4, h4, h3, by omega, hu x hx, hu x hx⟩
  | false =>
    refine AF.all (n := n) (ru := rl) (rl := rl) (by omega) ?_
    intro q hq
    obtain ⟨x, hx, rfl⟩ := List.mem_map.mp hq
    obtain ⟨h1, h2, h3, h4, h5, h6⟩ := a5 x hx
    exact ⟨fr x.1, lwr x.1, lwr x.1, too x.1, 0, rfl, h2, h5, h5, h3, by omega, hl x hx, hl x hx⟩
theorem mw_turns {N i n : Nat} {f : Nat → Bool} {L : ArL} {m : Mem} (hN : 40000 < N) (hA : VM (n, f, L)) (hi : i < 24) (mA : MM m i n (eB f n) L) :
    ∃ mw, MW mw (shE (fun _ => false) f 0 n) (L.map tnF) ∧ Fx 80 83 [14] m mw ∧ F_X8_turns N m (nI i) = tW N mw (nI 0) := by
  obtain ⟨a1, a2, a3, a4, a5, a6, a7⟩ := hA
  have a1 : 1 ≤ n := a1
  have a2 : n ≤ 32 := a2
  have a3 : L.length ≤ 160 := a3
  have a5 : DOK n L := a5
  obtain ⟨m2, c1, c2, c3⟩ := mw_begins (N := N) (m := m) (by omega)
  unfold F_X8_turns
  rw [calv_t c1]
  simp (disch := omega) only [zi_t, zi_f, bnd_t, zg_in, zx, nI_ltI, nI_leI, nI_eq, nI_add, pk_mul, pk_sub, mup_s, mup_c, mup_j, mrw_c, if_pos, if_neg, zm_1, zm_2, zm_3, zm_4, zm_5, zm_6, zm_7, zm_8, zm_9, zf_0, zf_1, zf_2, zf_3, zf_4, zf_5, zf_6, zf_7, zf_8, zf_9, zf_10, zf_14, zf_15, zf_16, zf_18, zf_19, zf_20, zf_24, zf_30, zf_31, zf_32, zf_33, zf_99, zf_100, zf_160, zf_200, zf_287, zf_288, zf_300, zf_1000, zf_1023, zf_1024, zf_1600, zf_3840, zf_25600, zf_36000, zf_1000000, zf_1000000000, zf_2000000000, zf_11560, za_1, za_2, za_4, za_5, za_6, za_7, za_8, za_9, za_10, za_11, za_12, za_14, za_15, za_22, za_23, za_25, za_26, za_27, za_28, za_29, za_30, za_31, za_32, za_33, za_34, za_35, za_41, za_42, za_43, za_44, za_45, za_46, za_47, za_48, za_49, za_61, za_62, za_63, za_64, za_65, za_71, za_72, za_73, za_74, za_75, za_76, za_77, za_78, za_79, za_80, za_81, za_82, za_83, za_84, za_85, za_86, za_87, za_88, za_89, za_90, za_91, za_92, za_93, za_94, za_95, za_96, za_97, za_98, za_99, za_100, za_101, za_102, za_103, za_104, za_105, za_106, za_107, za_108]
  refine loopF (fun F (m : Mem) j => L_X8_turns_10 N F m (nI i) (nI (160 * i + j))) L.length (fun j m' => MW m' (fun _ => false) ((L.take j).map tnF) ∧ Fx 80 83 [14] m m') (fun o => ∃ mw, MW mw (shE (fun _ => false) f 0 n) (L.map tnF) ∧ Fx 80 83 [14] m mw ∧ o = tW N mw (nI 0)) ?_ ?_ N 0 m2 (Nat.zero_le _) ⟨c2, c3.wd (by omega) (by omega) (by simp)⟩ (by omega)
  · rintro F j m1 hj ⟨h1, h2⟩
    obtain ⟨q, hq⟩ : ∃ q, L[j]? = some q := ⟨_, List.getElem?_eq_getElem hj⟩
    have hqm := a5 q (List.mem_of_getElem? hq)
    have hq2 : q.1 / 262144 < n := hqm.2.1
    have hq3 : q.1 % 1024 < n := hqm.2.2.1
    have hq4 : q.1 / 16384 % 16 ≤ 8 := hqm.2.2.2.1
    have hq5 : q.1 / 1024 % 16 ≤ 8 := hqm.2.2.2.2.1
    have mA1 := mA.fx h2 (by omega)
    obtain ⟨b75, b76, b77, b78, b79⟩ := mA1.2.2.2 j q hq
    have b74 := mA1.2.2.1
    obtain ⟨m3, g1, g2, g3⟩ := mw_adds (N := N) (s := q.1 / 262144) (u := q.1 / 1024 % 16) (l := q.1 / 16384 % 16) (t := q.1 % 1024) (c := q.2) h1 (by rw [List.length_map, List.length_take]; omega) (by omega) hq5 hq4 (by omega)
    refine Or.inl ⟨m3, ⟨by rw [map_take' hq]; exact g2, h2.tr (g3.wd (by omega) (by omega) (by simp))⟩, ?_⟩
    show S_X8_turns_10 N (L_X8_turns_10 N F) m1 (nI i) (nI (160 * i + j)) = _
    unfold S_X8_turns_10
    simp (disch := omega) only [zi_t, zi_f, bnd_t, zg_in, zx, nI_ltI, nI_leI, nI_eq, nI_add, pk_mul, pk_sub, mup_s, mup_c, mup_j, mrw_c, if_pos, if_neg, zm_1, zm_2, zm_3, zm_4, zm_5, zm_6, zm_7, zm_8, zm_9, zf_0, zf_1, zf_2, zf_3, zf_4, zf_5, zf_6, zf_7, zf_8, zf_9, zf_10, zf_14, zf_15, zf_16, zf_18, zf_19, zf_20, zf_24, zf_30, zf_31, zf_32, zf_33, zf_99, zf_100, zf_160, zf_200, zf_287, zf_288, zf_300, zf_1000, zf_1023, zf_1024, zf_1600, zf_3840, zf_25600, zf_36000, zf_1000000, zf_1000000000, zf_2000000000, zf_11560, za_1, za_2, za_4, za_5, za_6, za_7, za_8, za_9, za_10, za_11, za_12, za_14, za_15, za_22, za_23, za_25, za_26, za_27, za_28, za_29, za_30, za_31, za_32, za_33, za_34, za_35, za_41, za_42, za_43, za_44, za_45, za_46, za_47, za_48, za_49, za_61, za_62, za_63, za_64, za_65, za_71, za_72, za_73, za_74, za_75, za_76, za_77, za_78, za_79, za_80, za_81, za_82, za_83, za_84, za_85, za_86, za_87, za_88, za_89, za_90, za_91, za_92, za_93, za_94, za_95, za_96, za_97, za_98, za_99, za_100, za_101, za_102, za_103, za_104, za_105, za_106, za_107, za_108, b74, b75, b76, b77, b78, b79]
    rw [calv_t g1]
    rfl
  · rintro F m1 ⟨h1, h2⟩
    rw [List.take_of_length_le (Nat.le_refl _)] at h1
    have b74 := (mA.fx h2 (by omega)).2.2.1
    show ∃ mw, _ ∧ _ ∧ S_X8_turns_10 N (L_X8_turns_10 N F) m1 (nI i) (nI (160 * i + L.length)) = _
    unfold S_X8_turns_10
    simp (disch := omega) only [zi_t, zi_f, bnd_t, zg_in, zx, nI_ltI, nI_leI, nI_eq, nI_add, pk_mul, pk_sub, mup_s, mup_c, mup_j, mrw_c, if_pos, if_neg, zm_1, zm_2, zm_3, zm_4, zm_5, zm_6, zm_7, zm_8, zm_9, zf_0, zf_1, zf_2, zf_3, zf_4, zf_5, zf_6, zf_7, zf_8, zf_9, zf_10, zf_14, zf_15, zf_16, zf_18, zf_19, zf_20, zf_24, zf_30, zf_31, zf_32, zf_33, zf_99, zf_100, zf_160, zf_200, zf_287, zf_288, zf_300, zf_1000, zf_1023, zf_1024, zf_1600, zf_3840, zf_25600, zf_36000, zf_1000000, zf_1000000000, zf_2000000000, zf_11560, za_1, za_2, za_4, za_5, za_6, za_7, za_8, za_9, za_10, za_11, za_12, za_14, za_15, za_22, za_23, za_25, za_26, za_27, za_28, za_29, za_30, za_31, za_32, za_33, za_34, za_35, za_41, za_42, za_43, za_44, za_45, za_46, za_47, za_48, za_49, za_61, za_62, za_63, za_64, za_65, za_71, za_72, za_73, za_74, za_75, za_76, za_77, za_78, za_79, za_80, za_81, za_82, za_83, za_84, za_85, za_86, za_87, za_88, za_89, za_90, za_91, za_92, za_93, za_94, za_95, za_96, za_97, za_98, za_99, za_100, za_101, za_102, za_103, za_104, za_105, za_106, za_107, za_108, b74]
    refine loopF (fun F (m : Mem) k => L_X8_turns_68 N F m (nI i) (nI k)) n (fun k m' => MW m' (shE (fun _ => false) f 0 k) (L.map tnF) ∧ Fx 80 83 [14] m m') (fun o => ∃ mw, MW mw (shE (fun _ => false) f 0 n) (L.map tnF) ∧ Fx 80 83 [14] m mw ∧ o = tW N mw (nI 0)) ?_ ?_ N 0 m1 (Nat.zero_le _) ⟨by rw [shE_0]; exact h1, h2⟩ (by omega)
    · rintro F k m5 hk ⟨k1, k2⟩
      have y1 := (mA.fx k2 (by omega)).1
      have y3 := mw_isEndOf (N := N) (mA.fx k2 (by omega)).2.1 hi a2 hk
      refine Or.inl ⟨mup m5 82 k (bI (f k)), ⟨?_, k2.up (by omega) (by omega) (by omega)⟩, ?_⟩
      · have := mw_end k1 (0 + k) (f k)
        rw [shE_up, Nat.zero_add] at this
        exact this
      · show S_X8_turns_68 N (L_X8_turns_68 N F) m5 (nI i) (nI k) = _
        unfold S_X8_turns_68
        simp (disch := omega) only [zi_t, zi_f, bnd_t, zg_in, zx, nI_ltI, nI_leI, nI_eq, nI_add, pk_mul, pk_sub, mup_s, mup_c, mup_j, mrw_c, if_pos, if_neg, zm_1, zm_2, zm_3, zm_4, zm_5, zm_6, zm_7, zm_8, zm_9, zf_0, zf_1, zf_2, zf_3, zf_4, zf_5, zf_6, zf_7, zf_8, zf_9, zf_10, zf_14, zf_15, zf_16, zf_18, zf_19, zf_20, zf_24, zf_30, zf_31, zf_32, zf_33, zf_99, zf_100, zf_160, zf_200, zf_287, zf_288, zf_300, zf_1000, zf_1023, zf_1024, zf_1600, zf_3840, zf_25600, zf_36000, zf_1000000, zf_1000000000, zf_2000000000, zf_11560, za_1, za_2, za_4, za_5, za_6, za_7, za_8, za_9, za_10, za_11, za_12, za_14, za_15, za_22, za_23, za_25, za_26, za_27, za_28, za_29, za_30, za_31, za_32, za_33, za_34, za_35, za_41, za_42, za_43, za_44, za_45, za_46, za_47, za_48, za_49, za_61, za_62, za_63, za_64, za_65, za_71, za_72, za_73, za_74, za_75, za_76, za_77, za_78, za_79, za_80, za_81, za_82, za_83, za_84, za_85, za_86, za_87, za_88, za_89, za_90, za_91, za_92, za_93, za_94, za_95, za_96, za_97, za_98, za_99, za_100, za_101, za_102, za_103, za_104, za_105, za_106, za_107, za_108, y1]
        rw [cal_t y3]
        rw [gd_t (bI_isb' _)]
    · rintro F m5 ⟨k1, k2⟩
      have y1 := (mA.fx k2 (by omega)).1
      refine ⟨m5, k1, k2, ?_⟩
      show S_X8_turns_68 N (L_X8_turns_68 N F) m5 (nI i) (nI n) = _
      unfold S_X8_turns_68 tW
      simp (disch := omega) only [zi_t, zi_f, bnd_t, zg_in, zx, nI_ltI, nI_leI, nI_eq, nI_add, pk_mul, pk_sub, mup_s, mup_c, mup_j, mrw_c, if_pos, if_neg, zm_1, zm_2, zm_3, zm_4, zm_5, zm_6, zm_7, zm_8, zm_9, zf_0, zf_1, zf_2, zf_3, zf_4, zf_5, zf_6, zf_7, zf_8, zf_9, zf_10, zf_14, zf_15, zf_16, zf_18, zf_19, zf_20, zf_24, zf_30, zf_31, zf_32, zf_33, zf_99, zf_100, zf_160, zf_200, zf_287, zf_288, zf_300, zf_1000, zf_1023, zf_1024, zf_1600, zf_3840, zf_25600, zf_36000, zf_1000000, zf_1000000000, zf_2000000000, zf_11560, za_1, za_2, za_4, za_5, za_6, za_7, za_8, za_9, za_10, za_11, za_12, za_14, za_15, za_22, za_23, za_25, za_26, za_27, za_28, za_29, za_30, za_31, za_32, za_33, za_34, za_35, za_41, za_42, za_43, za_44, za_45, za_46, za_47, za_48, za_49, za_61, za_62, za_63, za_64, za_65, za_71, za_72, za_73, za_74, za_75, za_76, za_77, za_78, za_79, za_80, za_81, za_82, za_83, za_84, za_85, za_86, za_87, za_88, za_89, za_90, za_91, za_92, za_93, za_94, za_95, za_96, za_97, za_98, za_99, za_100, za_101, za_102, za_103, za_104, za_105, za_106, za_107, za_108, y1]
theorem mw_sides {N i n : Nat} {u : Bool} {f : Nat → Bool} {L : ArL} {m : Mem} (hN : 40000 < N) (hA : VM (n, f, L)) (hi : i < 24) (mA : MM m i n (eB f n) L) :
    ∃ mw, MW mw (shE (fun _ => false) f 0 n) (L.map (sdF u)) ∧ Fx 80 83 [14] m mw ∧ F_X8_sides N m (nI i) (bI u) = tW N mw (nI 0) := by
  obtain ⟨a1, a2, a3, a4, a5, a6, a7⟩ := hA
  have a1 : 1 ≤ n := a1
  have a2 : n ≤ 32 := a2
  have a3 : L.length ≤ 160 := a3
  have a5 : DOK n L := a5
  obtain ⟨m2, c1, c2, c3⟩ := mw_begins (N := N) (m := m) (by omega)
  unfold F_X8_sides
  rw [calv_t c1]
  simp (disch := omega) only [zi_t, zi_f, bnd_t, zg_in, zx, nI_ltI, nI_leI, nI_eq, nI_add, pk_mul, pk_sub, mup_s, mup_c, mup_j, mrw_c, if_pos, if_neg, zm_1, zm_2, zm_3, zm_4, zm_5, zm_6, zm_7, zm_8, zm_9, zf_0, zf_1, zf_2, zf_3, zf_4, zf_5, zf_6, zf_7, zf_8, zf_9, zf_10, zf_14, zf_15, zf_16, zf_18, zf_19, zf_20, zf_24, zf_30, zf_31, zf_32, zf_33, zf_99, zf_100, zf_160, zf_200, zf_287, zf_288, zf_300, zf_1000, zf_1023, zf_1024, zf_1600, zf_3840, zf_25600, zf_36000, zf_1000000, zf_1000000000, zf_2000000000, zf_11560, za_1, za_2, za_4, za_5, za_6, za_7, za_8, za_9, za_10, za_11, za_12, za_14, za_15, za_22, za_23, za_25, za_26, za_27, za_28, za_29, za_30, za_31, za_32, za_33, za_34, za_35, za_41, za_42, za_43, za_44, za_45, za_46, za_47, za_48, za_49, za_61, za_62, za_63, za_64, za_65, za_71, za_72, za_73, za_74, za_75, za_76, za_77, za_78, za_79, za_80, za_81, za_82, za_83, za_84, za_85, za_86, za_87, za_88, za_89, za_90, za_91, za_92, za_93, za_94, za_95, za_96, za_97, za_98, za_99, za_100, za_101, za_102, za_103, za_104, za_105, za_106, za_107, za_108]
  refine loopF (fun F (m : Mem) j => L_X8_sides_10 N F m (nI i) (bI u) (nI (160 * i + j))) L.length (fun j m' => MW m' (fun _ => false) ((L.take j).map (sdF u)) ∧ Fx 80 83 [14] m m') (fun o => ∃ mw, MW mw (shE (fun _ => false) f 0 n) (L.map (sdF u)) ∧ Fx 80 83 [14] m mw ∧ o = tW N mw (nI 0)) ?_ ?_ N 0 m2 (Nat.zero_le _) ⟨c2, c3.wd (by omega) (by omega) (by simp)⟩ (by omega)
  · rintro F j m1 hj ⟨h1, h2⟩
    obtain ⟨q, hq⟩ : ∃ q, L[j]? = some q := ⟨_, List.getElem?_eq_getElem hj⟩
    have hqm := a5 q (List.mem_of_getElem? hq)
    have hq2 : q.1 / 262144 < n := hqm.2.1
    have hq3 : q.1 % 1024 < n := hqm.2.2.1
    have hq4 : q.1 / 16384 % 16 ≤ 8 := hqm.2.2.2.1
    have hq5 : q.1 / 1024 % 16 ≤ 8 := hqm.2.2.2.2.1
    have mA1 := mA.fx h2 (by omega)
    obtain ⟨b75, b76, b77, b78, b79⟩ := mA1.2.2.2 j q hq
    have b74 := mA1.2.2.1
    obtain ⟨y, hy⟩ : ∃ y, y = if u = true then q.1 / 16384 % 16 else q.1 / 1024 % 16 := ⟨_, rfl⟩
    have hy8 : y ≤ 8 := by rw [hy]; split <;> omega
    obtain ⟨m3, g1, g2, g3⟩ := mw_adds (N := N) (s := q.1 / 262144) (u := y) (l := y) (t := q.1 % 1024) (c := 0) h1 (by rw [List.length_map, List.length_take]; omega) (by omega) hy8 hy8 (by omega)
    refine Or.inl ⟨m3, ⟨by rw [map_take' hq]; rw [hy] at g2; exact g2, h2.tr (g3.wd (by omega) (by omega) (by simp))⟩, ?_⟩
    show S_X8_sides_10 N (L_X8_sides_10 N F) m1 (nI i) (bI u) (nI (160 * i + j)) = _
    have hu : (if bI u = (0 : Int32) then nI (q.1 / 1024 % 16) else nI (q.1 / 16384 % 16)) = nI y := by
      rw [hy]
      cases u
      · rfl
      · rfl
    unfold S_X8_sides_10 B_X8_sides_45
    cases u with
    | true =>
      have e : y = q.1 / 16384 % 16 := hy
      rw [e] at g1
      simp (disch := omega) only [zi_t, zi_f, bnd_t, zg_in, zx, nI_ltI, nI_leI, nI_eq, nI_add, pk_mul, pk_sub, mup_s, mup_c, mup_j, mrw_c, if_pos, if_neg, zm_1, zm_2, zm_3, zm_4, zm_5, zm_6, zm_7, zm_8, zm_9, zf_0, zf_1, zf_2, zf_3, zf_4, zf_5, zf_6, zf_7, zf_8, zf_9, zf_10, zf_14, zf_15, zf_16, zf_18, zf_19, zf_20, zf_24, zf_30, zf_31, zf_32, zf_33, zf_99, zf_100, zf_160, zf_200, zf_287, zf_288, zf_300, zf_1000, zf_1023, zf_1024, zf_1600, zf_3840, zf_25600, zf_36000, zf_1000000, zf_1000000000, zf_2000000000, zf_11560, za_1, za_2, za_4, za_5, za_6, za_7, za_8, za_9, za_10, za_11, za_12, za_14, za_15, za_22, za_23, za_25, za_26, za_27, za_28, za_29, za_30, za_31, za_32, za_33, za_34, za_35, za_41, za_42, za_43, za_44, za_45, za_46, za_47, za_48, za_49, za_61, za_62, za_63, za_64, za_65, za_71, za_72, za_73, za_74, za_75, za_76, za_77, za_78, za_79, za_80, za_81, za_82, za_83, za_84, za_85, za_86, za_87, za_88, za_89, za_90, za_91, za_92, za_93, za_94, za_95, za_96, za_97, za_98, za_99, za_100, za_101, za_102, za_103, za_104, za_105, za_106, za_107, za_108, bI_t, b74, b75, b76, b77, b79]
      rw [calv_t g1]
      rfl
    | false =>
      have e : y = q.1 / 1024 % 16 := hy
      rw [e] at g1
      simp (disch := omega) only [zi_t, zi_f, bnd_t, zg_in, zx, nI_ltI, nI_leI, nI_eq, nI_add, pk_mul, pk_sub, mup_s, mup_c, mup_j, mrw_c, if_pos, if_neg, zm_1, zm_2, zm_3, zm_4, zm_5, zm_6, zm_7, zm_8, zm_9, zf_0, zf_1, zf_2, zf_3, zf_4, zf_5, zf_6, zf_7, zf_8, zf_9, zf_10, zf_14, zf_15, zf_16, zf_18, zf_19, zf_20, zf_24, zf_30, zf_31, zf_32, zf_33, zf_99, zf_100, zf_160, zf_200, zf_287, zf_288, zf_300, zf_1000, zf_1023, zf_1024, zf_1600, zf_3840, zf_25600, zf_36000, zf_1000000, zf_1000000000, zf_2000000000, zf_11560, za_1, za_2, za_4, za_5, za_6, za_7, za_8, za_9, za_10, za_11, za_12, za_14, za_15, za_22, za_23, za_25, za_26, za_27, za_28, za_29, za_30, za_31, za_32, za_33, za_34, za_35, za_41, za_42, za_43, za_44, za_45, za_46, za_47, za_48, za_49, za_61, za_62, za_63, za_64, za_65, za_71, za_72, za_73, za_74, za_75, za_76, za_77, za_78, za_79, za_80, za_81, za_82, za_83, za_84, za_85, za_86, za_87, za_88, za_89, za_90, za_91, za_92, za_93, za_94, za_95, za_96, za_97, za_98, za_99, za_100, za_101, za_102, za_103, za_104, za_105, za_106, za_107, za_108, bI_f, b74, b75, b76, b77, b79]
      rw [calv_t g1]
      rfl
  · rintro F m1 ⟨h1, h2⟩
    rw [List.take_of_length_le (Nat.le_refl _)] at h1
    have b74 := (mA.fx h2 (by omega)).2.2.1
    show ∃ mw, _ ∧ _ ∧ S_X8_sides_10 N (L_X8_sides_10 N F) m1 (nI i) (bI u) (nI (160 * i + L.length)) = _
    unfold S_X8_sides_10
    simp (disch := omega) only [zi_t, zi_f, bnd_t, zg_in, zx, nI_ltI, nI_leI, nI_eq, nI_add, pk_mul, pk_sub, mup_s, mup_c, mup_j, mrw_c, if_pos, if_neg, zm_1, zm_2, zm_3, zm_4, zm_5, zm_6, zm_7, zm_8, zm_9, zf_0, zf_1, zf_2, zf_3, zf_4, zf_5, zf_6, zf_7, zf_8, zf_9, zf_10, zf_14, zf_15, zf_16, zf_18, zf_19, zf_20, zf_24, zf_30, zf_31, zf_32, zf_33, zf_99, zf_100, zf_160, zf_200, zf_287, zf_288, zf_300, zf_1000, zf_1023, zf_1024, zf_1600, zf_3840, zf_25600, zf_36000, zf_1000000, zf_1000000000, zf_2000000000, zf_11560, za_1, za_2, za_4, za_5, za_6, za_7, za_8, za_9, za_10, za_11, za_12, za_14, za_15, za_22, za_23, za_25, za_26, za_27, za_28, za_29, za_30, za_31, za_32, za_33, za_34, za_35, za_41, za_42, za_43, za_44, za_45, za_46, za_47, za_48, za_49, za_61, za_62, za_63, za_64, za_65, za_71, za_72, za_73, za_74, za_75, za_76, za_77, za_78, za_79, za_80, za_81, za_82, za_83, za_84, za_85, za_86, za_87, za_88, za_89, za_90, za_91, za_92, za_93, za_94, za_95, za_96, za_97, za_98, za_99, za_100, za_101, za_102, za_103, za_104, za_105, za_106, za_107, za_108, b74]
    refine loopF (fun F (m : Mem) k => L_X8_sides_76 N F m (nI i) (nI k)) n (fun k m' => MW m' (shE (fun _ => false) f 0 k) (L.map (sdF u)) ∧ Fx 80 83 [14] m m') (fun o => ∃ mw, MW mw (shE (fun _ => false) f 0 n) (L.map (sdF u)) ∧ Fx 80 83 [14] m mw ∧ o = tW N mw (nI 0)) ?_ ?_ N 0 m1 (Nat.zero_le _) ⟨by rw [shE_0]; exact h1, h2⟩ (by omega)
    · rintro F k m5 hk ⟨k1, k2⟩
      have y1 := (mA.fx k2 (by omega)).1
      have y3 := mw_isEndOf (N := N) (mA.fx k2 (by omega)).2.1 hi a2 hk
      refine Or.inl ⟨mup m5 82 k (bI (f k)), ⟨?_, k2.up (by omega) (by omega) (by omega)⟩, ?_⟩
      · have := mw_end k1 (0 + k) (f k)
        rw [shE_up, Nat.zero_add] at this
        exact this
      · show S_X8_sides_76 N (L_X8_sides_76 N F) m5 (nI i) (nI k) = _
        unfold S_X8_sides_76
        simp (disch := omega) only [zi_t, zi_f, bnd_t, zg_in, zx, nI_ltI, nI_leI, nI_eq, nI_add, pk_mul, pk_sub, mup_s, mup_c, mup_j, mrw_c, if_pos, if_neg, zm_1, zm_2, zm_3, zm_4, zm_5, zm_6, zm_7, zm_8, zm_9, zf_0, zf_1, zf_2, zf_3, zf_4, zf_5, zf_6, zf_7, zf_8, zf_9, zf_10, zf_14, zf_15, zf_16, zf_18, zf_19, zf_20, zf_24, zf_30, zf_31, zf_32, zf_33, zf_99, zf_100, zf_160, zf_200, zf_287, zf_288, zf_300, zf_1000, zf_1023, zf_1024, zf_1600, zf_3840, zf_25600, zf_36000, zf_1000000, zf_1000000000, zf_2000000000, zf_11560, za_1, za_2, za_4, za_5, za_6, za_7, za_8, za_9, za_10, za_11, za_12, za_14, za_15, za_22, za_23, za_25, za_26, za_27, za_28, za_29, za_30, za_31, za_32, za_33, za_34, za_35, za_41, za_42, za_43, za_44, za_45, za_46, za_47, za_48, za_49, za_61, za_62, za_63, za_64, za_65, za_71, za_72, za_73, za_74, za_75, za_76, za_77, za_78, za_79, za_80, za_81, za_82, za_83, za_84, za_85, za_86, za_87, za_88, za_89, za_90, za_91, za_92, za_93, za_94, za_95, za_96, za_97, za_98, za_99, za_100, za_101, za_102, za_103, za_104, za_105, za_106, za_107, za_108, y1]
        rw [cal_t y3]
        rw [gd_t (bI_isb' _)]
    · rintro F m5 ⟨k1, k2⟩
      have y1 := (mA.fx k2 (by omega)).1
      refine ⟨m5, k1, k2, ?_⟩
      show S_X8_sides_76 N (L_X8_sides_76 N F) m5 (nI i) (nI n) = _
      unfold S_X8_sides_76 tW
      simp (disch := omega) only [zi_t, zi_f, bnd_t, zg_in, zx, nI_ltI, nI_leI, nI_eq, nI_add, pk_mul, pk_sub, mup_s, mup_c, mup_j, mrw_c, if_pos, if_neg, zm_1, zm_2, zm_3, zm_4, zm_5, zm_6, zm_7, zm_8, zm_9, zf_0, zf_1, zf_2, zf_3, zf_4, zf_5, zf_6, zf_7, zf_8, zf_9, zf_10, zf_14, zf_15, zf_16, zf_18, zf_19, zf_20, zf_24, zf_30, zf_31, zf_32, zf_33, zf_99, zf_100, zf_160, zf_200, zf_287, zf_288, zf_300, zf_1000, zf_1023, zf_1024, zf_1600, zf_3840, zf_25600, zf_36000, zf_1000000, zf_1000000000, zf_2000000000, zf_11560, za_1, za_2, za_4, za_5, za_6, za_7, za_8, za_9, za_10, za_11, za_12, za_14, za_15, za_22, za_23, za_25, za_26, za_27, za_28, za_29, za_30, za_31, za_32, za_33, za_34, za_35, za_41, za_42, za_43, za_44, za_45, za_46, za_47, za_48, za_49, za_61, za_62, za_63, za_64, za_65, za_71, za_72, za_73, za_74, za_75, za_76, za_77, za_78, za_79, za_80, za_81, za_82, za_83, za_84, za_85, za_86, za_87, za_88, za_89, za_90, za_91, za_92, za_93, za_94, za_95, za_96, za_97, za_98, za_99, za_100, za_101, za_102, za_103, za_104, za_105, za_106, za_107, za_108, y1]
theorem cl_turn {N i n : Nat} {f : Nat → Bool} {L : ArL} {m : Mem} {Ms : List Ma} {w : List Nat} {ls : Ls} (hN : 40000 < N) (hA : VM (n, f, L)) (hl : Ms.length ≤ 24) (hi : i < Ms.length) (hC : InC m Ms w ls) (mA : MC m (200 + 4 * i) n (eB f n) L) :
    ∃ md, F_X7_turn N m (nI i) = calx (F_X7_keepDraft N md) (fun r m => some (.inl r, m)) ∧ Off 3 16 m md ∧ DR md n 0 (shE (fun _ => false) f 0 n) (L.map tnF) := by
  obtain ⟨a1, a2, a3, a4, a5, a6, a7⟩ := hA
  have a1 : 1 ≤ n := a1
  have a2 : n ≤ 32 := a2
  have a3 : L.length ≤ 160 := a3
  have a5 : DOK n L := a5
  obtain ⟨m2, c1, c2, c3⟩ := dr_begin' (N := N) (n := n) (st := 0) (m := m) (by omega) (by omega)
  have xA := mA.1
  unfold F_X7_turn
  rw [calx_t (need_ok hC hl hi)]
  simp (disch := omega) only [zi_t, zi_f, bnd_t, zg_in, zx, nI_ltI, nI_leI, nI_eq, nI_add, pk_mul, pk_sub, mup_s, mup_c, mup_j, mrw_c, if_pos, if_neg, zm_1, zm_2, zm_3, zm_4, zm_5, zm_6, zm_7, zm_8, zm_9, zf_0, zf_1, zf_2, zf_3, zf_4, zf_5, zf_6, zf_7, zf_8, zf_9, zf_10, zf_14, zf_15, zf_16, zf_18, zf_19, zf_20, zf_24, zf_30, zf_31, zf_32, zf_33, zf_99, zf_100, zf_160, zf_200, zf_287, zf_288, zf_300, zf_1000, zf_1023, zf_1024, zf_1600, zf_3840, zf_25600, zf_36000, zf_1000000, zf_1000000000, zf_2000000000, zf_11560, za_1, za_2, za_4, za_5, za_6, za_7, za_8, za_9, za_10, za_11, za_12, za_14, za_15, za_22, za_23, za_25, za_26, za_27, za_28, za_29, za_30, za_31, za_32, za_33, za_34, za_35, za_41, za_42, za_43, za_44, za_45, za_46, za_47, za_48, za_49, za_61, za_62, za_63, za_64, za_65, za_71, za_72, za_73, za_74, za_75, za_76, za_77, za_78, za_79, za_80, za_81, za_82, za_83, za_84, za_85, za_86, za_87, za_88, za_89, za_90, za_91, za_92, za_93, za_94, za_95, za_96, za_97, za_98, za_99, za_100, za_101, za_102, za_103, za_104, za_105, za_106, za_107, za_108, xA]
  rw [calv_t c1]
  refine loopF (fun F (m : Mem) j => L_X7_turn_26 N F m (200 + 4 * i) (nI j)) L.length (fun j m' => DR m' n 0 (fun _ => false) ((L.take j).map tnF) ∧ Off 3 16 m m') (fun o => ∃ md, o = calx (F_X7_keepDraft N md) (fun r m => some (.inl r, m)) ∧ Off 3 16 m md ∧ DR md n 0 (shE (fun _ => false) f 0 n) (L.map tnF)) ?_ ?_ N 0 m2 (Nat.zero_le _) ⟨c2, c3.wd (by omega) (by omega)⟩ (by omega)
  · rintro F j m1 hj ⟨h1, h2⟩
    obtain ⟨q, hq⟩ : ∃ q, L[j]? = some q := ⟨_, List.getElem?_eq_getElem hj⟩
    have hqm := a5 q (List.mem_of_getElem? hq)
    have hq1 := hqm.1
    have hq2 : q.1 / 262144 < n := hqm.2.1
    have hq3 : q.1 % 1024 < n := hqm.2.2.1
    have hq4 : q.1 / 16384 % 16 ≤ 8 := hqm.2.2.2.1
    have hq5 : q.1 / 1024 % 16 ≤ 8 := hqm.2.2.2.2.1
    have mA1 := mA.off (by omega) h2
    have e1 := mA1.2.2.1
    have e2 := (mA1.2.2.2 j q hq).1
    have e3 := (mA1.2.2.2 j q hq).2
    obtain ⟨m3, g1, g2, g3⟩ := dr_addArc (N := N) (s := q.1 / 262144) (u := q.1 / 1024 % 16) (l := q.1 / 16384 % 16) (t := q.1 % 1024) (c := q.2) h1 (by omega) (by rw [List.length_map, List.length_take]; omega) hq2 hq5 hq4 hq3
    refine Or.inl ⟨m3, ⟨by rw [map_take' hq]; exact g2, h2.tr (g3.wd (by omega) (by omega))⟩, ?_⟩
    show S_X7_turn_26 N (L_X7_turn_26 N F) m1 (200 + 4 * i) (nI j) = _
    unfold S_X7_turn_26
    simp (disch := omega) only [zi_t, zi_f, bnd_t, zg_in, zx, nI_ltI, nI_leI, nI_eq, nI_add, pk_mul, pk_sub, mup_s, mup_c, mup_j, mrw_c, if_pos, if_neg, zm_1, zm_2, zm_3, zm_4, zm_5, zm_6, zm_7, zm_8, zm_9, zf_0, zf_1, zf_2, zf_3, zf_4, zf_5, zf_6, zf_7, zf_8, zf_9, zf_10, zf_14, zf_15, zf_16, zf_18, zf_19, zf_20, zf_24, zf_30, zf_31, zf_32, zf_33, zf_99, zf_100, zf_160, zf_200, zf_287, zf_288, zf_300, zf_1000, zf_1023, zf_1024, zf_1600, zf_3840, zf_25600, zf_36000, zf_1000000, zf_1000000000, zf_2000000000, zf_11560, za_1, za_2, za_4, za_5, za_6, za_7, za_8, za_9, za_10, za_11, za_12, za_14, za_15, za_22, za_23, za_25, za_26, za_27, za_28, za_29, za_30, za_31, za_32, za_33, za_34, za_35, za_41, za_42, za_43, za_44, za_45, za_46, za_47, za_48, za_49, za_61, za_62, za_63, za_64, za_65, za_71, za_72, za_73, za_74, za_75, za_76, za_77, za_78, za_79, za_80, za_81, za_82, za_83, za_84, za_85, za_86, za_87, za_88, za_89, za_90, za_91, za_92, za_93, za_94, za_95, za_96, za_97, za_98, za_99, za_100, za_101, za_102, za_103, za_104, za_105, za_106, za_107, za_108, e1, e2, e3, alen_hi, pk_from, pk_to, pk_upper, pk_lower]
    rw [calv_t g1]
  · rintro F m1 ⟨h1, h2⟩
    rw [List.take_of_length_le (Nat.le_refl _)] at h1
    have mA1 := mA.off (by omega) h2
    have e1 := mA1.2.2.1
    obtain ⟨m5, k1, k2, k3⟩ := dr_addEndsOf (N := N) (b := 0) (by omega) h1 (by omega) (by omega) mA1.1 mA1.2.1 a2 (by omega)
    refine ⟨m5, ?_, h2.tr (k3.wd (by omega) (by omega)), k2⟩
    show S_X7_turn_26 N (L_X7_turn_26 N F) m1 (200 + 4 * i) (nI L.length) = _
    unfold S_X7_turn_26
    simp (disch := omega) only [zi_t, zi_f, bnd_t, zg_in, zx, nI_ltI, nI_leI, nI_eq, nI_add, pk_mul, pk_sub, mup_s, mup_c, mup_j, mrw_c, if_pos, if_neg, zm_1, zm_2, zm_3, zm_4, zm_5, zm_6, zm_7, zm_8, zm_9, zf_0, zf_1, zf_2, zf_3, zf_4, zf_5, zf_6, zf_7, zf_8, zf_9, zf_10, zf_14, zf_15, zf_16, zf_18, zf_19, zf_20, zf_24, zf_30, zf_31, zf_32, zf_33, zf_99, zf_100, zf_160, zf_200, zf_287, zf_288, zf_300, zf_1000, zf_1023, zf_1024, zf_1600, zf_3840, zf_25600, zf_36000, zf_1000000, zf_1000000000, zf_2000000000, zf_11560, za_1, za_2, za_4, za_5, za_6, za_7, za_8, za_9, za_10, za_11, za_12, za_14, za_15, za_22, za_23, za_25, za_26, za_27, za_28, za_29, za_30, za_31, za_32, za_33, za_34, za_35, za_41, za_42, za_43, za_44, za_45, za_46, za_47, za_48, za_49, za_61, za_62, za_63, za_64, za_65, za_71, za_72, za_73, za_74, za_75, za_76, za_77, za_78, za_79, za_80, za_81, za_82, za_83, za_84, za_85, za_86, za_87, za_88, za_89, za_90, za_91, za_92, za_93, za_94, za_95, za_96, za_97, za_98, za_99, za_100, za_101, za_102, za_103, za_104, za_105, za_106, za_107, za_108, e1]
    rw [calv_t k1]
theorem cl_side {N i n : Nat} {u : Bool} {f : Nat → Bool} {L : ArL} {m : Mem} {Ms : List Ma} {w : List Nat} {ls : Ls} (hN : 40000 < N) (hA : VM (n, f, L)) (hl : Ms.length ≤ 24) (hi : i < Ms.length) (hC : InC m Ms w ls) (mA : MC m (200 + 4 * i) n (eB f n) L) :
    ∃ md, F_X7_side N m (nI i) (bI u) = calx (F_X7_keepDraft N md) (fun r m => some (.inl r, m)) ∧ Off 3 16 m md ∧ DR md n 0 (shE (fun _ => false) f 0 n) (L.map (sdF u)) := by
  obtain ⟨a1, a2, a3, a4, a5, a6, a7⟩ := hA
  have a1 : 1 ≤ n := a1
  have a2 : n ≤ 32 := a2
  have a3 : L.length ≤ 160 := a3
  have a5 : DOK n L := a5
  obtain ⟨m2, c1, c2, c3⟩ := dr_begin' (N := N) (n := n) (st := 0) (m := m) (by omega) (by omega)
  have xA := mA.1
  unfold F_X7_side
  rw [calx_t (need_ok hC hl hi)]
  simp (disch := omega) only [zi_t, zi_f, bnd_t, zg_in, zx, nI_ltI, nI_leI, nI_eq, nI_add, pk_mul, pk_sub, mup_s, mup_c, mup_j, mrw_c, if_pos, if_neg, zm_1, zm_2, zm_3, zm_4, zm_5, zm_6, zm_7, zm_8, zm_9, zf_0, zf_1, zf_2, zf_3, zf_4, zf_5, zf_6, zf_7, zf_8, zf_9, zf_10, zf_14, zf_15, zf_16, zf_18, zf_19, zf_20, zf_24, zf_30, zf_31, zf_32, zf_33, zf_99, zf_100, zf_160, zf_200, zf_287, zf_288, zf_300, zf_1000, zf_1023, zf_1024, zf_1600, zf_3840, zf_25600, zf_36000, zf_1000000, zf_1000000000, zf_2000000000, zf_11560, za_1, za_2, za_4, za_5, za_6, za_7, za_8, za_9, za_10, za_11, za_12, za_14, za_15, za_22, za_23, za_25, za_26, za_27, za_28, za_29, za_30, za_31, za_32, za_33, za_34, za_35, za_41, za_42, za_43, za_44, za_45, za_46, za_47, za_48, za_49, za_61, za_62, za_63, za_64, za_65, za_71, za_72, za_73, za_74, za_75, za_76, za_77, za_78, za_79, za_80, za_81, za_82, za_83, za_84, za_85, za_86, za_87, za_88, za_89, za_90, za_91, za_92, za_93, za_94, za_95, za_96, za_97, za_98, za_99, za_100, za_101, za_102, za_103, za_104, za_105, za_106, za_107, za_108, xA]
  rw [calv_t c1]
  refine loopF (fun F (m : Mem) j => L_X7_side_27 N F m (bI u) (200 + 4 * i) (nI j)) L.length (fun j m' => DR m' n 0 (fun _ => false) ((L.take j).map (sdF u)) ∧ Off 3 16 m m') (fun o => ∃ md, o = calx (F_X7_keepDraft N md) (fun r m => some (.inl r, m)) ∧ Off 3 16 m md ∧ DR md n 0 (shE (fun _ => false) f 0 n) (L.map (sdF u))) ?_ ?_ N 0 m2 (Nat.zero_le _) ⟨c2, c3.wd (by omega) (by omega)⟩ (by omega)
  · rintro F j m1 hj ⟨h1, h2⟩
    obtain ⟨q, hq⟩ : ∃ q, L[j]? = some q := ⟨_, List.getElem?_eq_getElem hj⟩
    have hqm := a5 q (List.mem_of_getElem? hq)
    have hq1 := hqm.1
    have hq2 : q.1 / 262144 < n := hqm.2.1
    have hq3 : q.1 % 1024 < n := hqm.2.2.1
    have hq4 : q.1 / 16384 % 16 ≤ 8 := hqm.2.2.2.1
    have hq5 : q.1 / 1024 % 16 ≤ 8 := hqm.2.2.2.2.1
    have mA1 := mA.off (by omega) h2
    have e1 := mA1.2.2.1
    have e2 := (mA1.2.2.2 j q hq).1
    obtain ⟨y, hy⟩ : ∃ y, y = if u = true then q.1 / 16384 % 16 else q.1 / 1024 % 16 := ⟨_, rfl⟩
    have hy8 : y ≤ 8 := by rw [hy]; split <;> omega
    obtain ⟨m3, g1, g2, g3⟩ := dr_addArc (N := N) (s := q.1 / 262144) (u := y) (l := y) (t := q.1 % 1024) (c := 0) h1 (by omega) (by rw [List.length_map, List.length_take]; omega) hq2 hy8 hy8 hq3
    refine Or.inl ⟨m3, ⟨by rw [map_take' hq]; rw [hy] at g2; exact g2, h2.tr (g3.wd (by omega) (by omega))⟩, ?_⟩
    show S_X7_side_27 N (L_X7_side_27 N F) m1 (bI u) (200 + 4 * i) (nI j) = _
    unfold S_X7_side_27 B_X7_side_68
    cases u with
    | true =>
      have e : y = q.1 / 16384 % 16 := hy
      rw [e] at g1
      simp (disch := omega) only [zi_t, zi_f, bnd_t, zg_in, zx, nI_ltI, nI_leI, nI_eq, nI_add, pk_mul, pk_sub, mup_s, mup_c, mup_j, mrw_c, if_pos, if_neg, zm_1, zm_2, zm_3, zm_4, zm_5, zm_6, zm_7, zm_8, zm_9, zf_0, zf_1, zf_2, zf_3, zf_4, zf_5, zf_6, zf_7, zf_8, zf_9, zf_10, zf_14, zf_15, zf_16, zf_18, zf_19, zf_20, zf_24, zf_30, zf_31, zf_32, zf_33, zf_99, zf_100, zf_160, zf_200, zf_287, zf_288, zf_300, zf_1000, zf_1023, zf_1024, zf_1600, zf_3840, zf_25600, zf_36000, zf_1000000, zf_1000000000, zf_2000000000, zf_11560, za_1, za_2, za_4, za_5, za_6, za_7, za_8, za_9, za_10, za_11, za_12, za_14, za_15, za_22, za_23, za_25, za_26, za_27, za_28, za_29, za_30, za_31, za_32, za_33, za_34, za_35, za_41, za_42, za_43, za_44, za_45, za_46, za_47, za_48, za_49, za_61, za_62, za_63, za_64, za_65, za_71, za_72, za_73, za_74, za_75, za_76, za_77, za_78, za_79, za_80, za_81, za_82, za_83, za_84, za_85, za_86, za_87, za_88, za_89, za_90, za_91, za_92, za_93, za_94, za_95, za_96, za_97, za_98, za_99, za_100, za_101, za_102, za_103, za_104, za_105, za_106, za_107, za_108, bI_t, e1, e2, alen_hi, pk_from, pk_to, pk_upper, pk_lower]
      rw [calv_t g1]
    | false =>
      have e : y = q.1 / 1024 % 16 := hy
      rw [e] at g1
      simp (disch := omega) only [zi_t, zi_f, bnd_t, zg_in, zx, nI_ltI, nI_leI, nI_eq, nI_add, pk_mul, pk_sub, mup_s, mup_c, mup_j, mrw_c, if_pos, if_neg, zm_1, zm_2, zm_3, zm_4, zm_5, zm_6, zm_7, zm_8, zm_9, zf_0, zf_1, zf_2, zf_3, zf_4, zf_5, zf_6, zf_7, zf_8, zf_9, zf_10, zf_14, zf_15, zf_16, zf_18, zf_19, zf_20, zf_24, zf_30, zf_31, zf_32, zf_33, zf_99, zf_100, zf_160, zf_200, zf_287, zf_288, zf_300, zf_1000, zf_1023, zf_1024, zf_1600, zf_3840, zf_25600, zf_36000, zf_1000000, zf_1000000000, zf_2000000000, zf_11560, za_1, za_2, za_4, za_5, za_6, za_7, za_8, za_9, za_10, za_11, za_12, za_14, za_15, za_22, za_23, za_25, za_26, za_27, za_28, za_29, za_30, za_31, za_32, za_33, za_34, za_35, za_41, za_42, za_43, za_44, za_45, za_46, za_47, za_48, za_49, za_61, za_62, za_63, za_64, za_65, za_71, za_72, za_73, za_74, za_75, za_76, za_77, za_78, za_79, za_80, za_81, za_82, za_83, za_84, za_85, za_86, za_87, za_88, za_89, za_90, za_91, za_92, za_93, za_94, za_95, za_96, za_97, za_98, za_99, za_100, za_101, za_102, za_103, za_104, za_105, za_106, za_107, za_108, bI_f, e1, e2, alen_hi, pk_from, pk_to, pk_upper, pk_lower]
      rw [calv_t g1]
  · rintro F m1 ⟨h1, h2⟩
    rw [List.take_of_length_le (Nat.le_refl _)] at h1
    have mA1 := mA.off (by omega) h2
    have e1 := mA1.2.2.1
    obtain ⟨m5, k1, k2, k3⟩ := dr_addEndsOf (N := N) (b := 0) (by omega) h1 (by omega) (by omega) mA1.1 mA1.2.1 a2 (by omega)
    refine ⟨m5, ?_, h2.tr (k3.wd (by omega) (by omega)), k2⟩
    show S_X7_side_27 N (L_X7_side_27 N F) m1 (bI u) (200 + 4 * i) (nI L.length) = _
    unfold S_X7_side_27
    simp (disch := omega) only [zi_t, zi_f, bnd_t, zg_in, zx, nI_ltI, nI_leI, nI_eq, nI_add, pk_mul, pk_sub, mup_s, mup_c, mup_j, mrw_c, if_pos, if_neg, zm_1, zm_2, zm_3, zm_4, zm_5, zm_6, zm_7, zm_8, zm_9, zf_0, zf_1, zf_2, zf_3, zf_4, zf_5, zf_6, zf_7, zf_8, zf_9, zf_10, zf_14, zf_15, zf_16, zf_18, zf_19, zf_20, zf_24, zf_30, zf_31, zf_32, zf_33, zf_99, zf_100, zf_160, zf_200, zf_287, zf_288, zf_300, zf_1000, zf_1023, zf_1024, zf_1600, zf_3840, zf_25600, zf_36000, zf_1000000, zf_1000000000, zf_2000000000, zf_11560, za_1, za_2, za_4, za_5, za_6, za_7, za_8, za_9, za_10, za_11, za_12, za_14, za_15, za_22, za_23, za_25, za_26, za_27, za_28, za_29, za_30, za_31, za_32, za_33, za_34, za_35, za_41, za_42, za_43, za_44, za_45, za_46, za_47, za_48, za_49, za_61, za_62, za_63, za_64, za_65, za_71, za_72, za_73, za_74, za_75, za_76, za_77, za_78, za_79, za_80, za_81, za_82, za_83, za_84, za_85, za_86, za_87, za_88, za_89, za_90, za_91, za_92, za_93, za_94, za_95, za_96, za_97, za_98, za_99, za_100, za_101, za_102, za_103, za_104, za_105, za_106, za_107, za_108, e1]
    rw [calv_t k1]
theorem sim_turn {N : Nat} (hN : 40000 < N) (x : Int32) (Ms : List Ma) (w : List Nat) (ls : Ls) (hV : InV Ms w ls) : Sim1 (fun e => nI (3 - e)) (fun m => F_X7_turn N m x) (fun m => F_X8_turn N m x) Ms w ls := by
  have v1 := hV.1
  rcases i32_cases x Ms.length with ⟨i, hi, rfl⟩ | hx
  · obtain ⟨n, f, L, gA⟩ := ma_get hi
    have vA := hV.2.1 _ (List.mem_of_getElem? gA)
    have a1 : 1 ≤ n := vA.1
    have a2 : n ≤ 32 := vA.2.1
    have a3 : L.length ≤ 160 := vA.2.2.1
    obtain ⟨k1, k2, k3⟩ := tn_af vA
    refine sim_makeJ (n := n) (st := 0) hN hV rfl (by omega) (by omega) (by rw [List.length_map]; omega) k1 (by rw [List.length_map]; omega) (k1.wd (by omega)) (fun _ => Iff.rfl) (fun _ _ => rfl) k2 k3 (fun m hC => cl_turn hN vA v1 hi hC (hC.2.1 i _ gA)) (fun m hM hl24 => ?_) (fun m hM hl24 => ?_)
    · obtain ⟨mw, g1, g2, g3⟩ := mw_turns hN vA (by omega) (hM.2.1 i _ gA)
      refine ⟨mw, g1, g2, fun b m1 hm1 => ?_⟩
      show F_X8_turn N m _ = _
      unfold F_X8_turn
      rw [cal_t (ism_ok hM v1 hi)]
      simp (disch := omega) only [zi_t, zi_f, bnd_t, zg_in, zx, nI_ltI, nI_leI, nI_eq, nI_add, pk_mul, pk_sub, mup_s, mup_c, mup_j, mrw_c, if_pos, if_neg, zm_1, zm_2, zm_3, zm_4, zm_5, zm_6, zm_7, zm_8, zm_9, zf_0, zf_1, zf_2, zf_3, zf_4, zf_5, zf_6, zf_7, zf_8, zf_9, zf_10, zf_14, zf_15, zf_16, zf_18, zf_19, zf_20, zf_24, zf_30, zf_31, zf_32, zf_33, zf_99, zf_100, zf_160, zf_200, zf_287, zf_288, zf_300, zf_1000, zf_1023, zf_1024, zf_1600, zf_3840, zf_25600, zf_36000, zf_1000000, zf_1000000000, zf_2000000000, zf_11560, za_1, za_2, za_4, za_5, za_6, za_7, za_8, za_9, za_10, za_11, za_12, za_14, za_15, za_22, za_23, za_25, za_26, za_27, za_28, za_29, za_30, za_31, za_32, za_33, za_34, za_35, za_41, za_42, za_43, za_44, za_45, za_46, za_47, za_48, za_49, za_61, za_62, za_63, za_64, za_65, za_71, za_72, za_73, za_74, za_75, za_76, za_77, za_78, za_79, za_80, za_81, za_82, za_83, za_84, za_85, za_86, za_87, za_88, za_89, za_90, za_91, za_92, za_93, za_94, za_95, za_96, za_97, za_98, za_99, za_100, za_101, za_102, za_103, za_104, za_105, za_106, za_107, za_108]
      rw [cal_t (ist_y hM hl24)]
      simp (disch := omega) only [zi_t, zi_f, bnd_t, zg_in, zx, nI_ltI, nI_leI, nI_eq, nI_add, pk_mul, pk_sub, mup_s, mup_c, mup_j, mrw_c, if_pos, if_neg, zm_1, zm_2, zm_3, zm_4, zm_5, zm_6, zm_7, zm_8, zm_9, zf_0, zf_1, zf_2, zf_3, zf_4, zf_5, zf_6, zf_7, zf_8, zf_9, zf_10, zf_14, zf_15, zf_16, zf_18, zf_19, zf_20, zf_24, zf_30, zf_31, zf_32, zf_33, zf_99, zf_100, zf_160, zf_200, zf_287, zf_288, zf_300, zf_1000, zf_1023, zf_1024, zf_1600, zf_3840, zf_25600, zf_36000, zf_1000000, zf_1000000000, zf_2000000000, zf_11560, za_1, za_2, za_4, za_5, za_6, za_7, za_8, za_9, za_10, za_11, za_12, za_14, za_15, za_22, za_23, za_25, za_26, za_27, za_28, za_29, za_30, za_31, za_32, za_33, za_34, za_35, za_41, za_42, za_43, za_44, za_45, za_46, za_47, za_48, za_49, za_61, za_62, za_63, za_64, za_65, za_71, za_72, za_73, za_74, za_75, za_76, za_77, za_78, za_79, za_80, za_81, za_82, za_83, za_84, za_85, za_86, za_87, za_88, za_89, za_90, za_91, za_92, za_93, za_94, za_95, za_96, za_97, za_98, za_99, za_100, za_101, za_102, za_103, za_104, za_105, za_106, za_107, za_108]
      rw [g3, cal_t (tW_of hm1)]
      cases b
      · rfl
      · rfl
    · show F_X8_turn N m _ = _
      unfold F_X8_turn
      rw [cal_t (ism_ok hM v1 hi)]
      simp (disch := omega) only [zi_t, zi_f, bnd_t, zg_in, zx, nI_ltI, nI_leI, nI_eq, nI_add, pk_mul, pk_sub, mup_s, mup_c, mup_j, mrw_c, if_pos, if_neg, zm_1, zm_2, zm_3, zm_4, zm_5, zm_6, zm_7, zm_8, zm_9, zf_0, zf_1, zf_2, zf_3, zf_4, zf_5, zf_6, zf_7, zf_8, zf_9, zf_10, zf_14, zf_15, zf_16, zf_18, zf_19, zf_20, zf_24, zf_30, zf_31, zf_32, zf_33, zf_99, zf_100, zf_160, zf_200, zf_287, zf_288, zf_300, zf_1000, zf_1023, zf_1024, zf_1600, zf_3840, zf_25600, zf_36000, zf_1000000, zf_1000000000, zf_2000000000, zf_11560, za_1, za_2, za_4, za_5, za_6, za_7, za_8, za_9, za_10, za_11, za_12, za_14, za_15, za_22, za_23, za_25, za_26, za_27, za_28, za_29, za_30, za_31, za_32, za_33, za_34, za_35, za_41, za_42, za_43, za_44, za_45, za_46, za_47, za_48, za_49, za_61, za_62, za_63, za_64, za_65, za_71, za_72, za_73, za_74, za_75, za_76, za_77, za_78, za_79, za_80, za_81, za_82, za_83, za_84, za_85, za_86, za_87, za_88, za_89, za_90, za_91, za_92, za_93, za_94, za_95, za_96, za_97, za_98, za_99, za_100, za_101, za_102, za_103, za_104, za_105, za_106, za_107, za_108]
      rw [cal_t (ist_n hM v1 hl24)]
      simp (disch := omega) only [zi_t, zi_f, bnd_t, zg_in, zx, nI_ltI, nI_leI, nI_eq, nI_add, pk_mul, pk_sub, mup_s, mup_c, mup_j, mrw_c, if_pos, if_neg, zm_1, zm_2, zm_3, zm_4, zm_5, zm_6, zm_7, zm_8, zm_9, zf_0, zf_1, zf_2, zf_3, zf_4, zf_5, zf_6, zf_7, zf_8, zf_9, zf_10, zf_14, zf_15, zf_16, zf_18, zf_19, zf_20, zf_24, zf_30, zf_31, zf_32, zf_33, zf_99, zf_100, zf_160, zf_200, zf_287, zf_288, zf_300, zf_1000, zf_1023, zf_1024, zf_1600, zf_3840, zf_25600, zf_36000, zf_1000000, zf_1000000000, zf_2000000000, zf_11560, za_1, za_2, za_4, za_5, za_6, za_7, za_8, za_9, za_10, za_11, za_12, za_14, za_15, za_22, za_23, za_25, za_26, za_27, za_28, za_29, za_30, za_31, za_32, za_33, za_34, za_35, za_41, za_42, za_43, za_44, za_45, za_46, za_47, za_48, za_49, za_61, za_62, za_63, za_64, za_65, za_71, za_72, za_73, za_74, za_75, za_76, za_77, za_78, za_79, za_80, za_81, za_82, za_83, za_84, za_85, za_86, za_87, za_88, za_89, za_90, za_91, za_92, za_93, za_94, za_95, za_96, za_97, za_98, za_99, za_100, za_101, za_102, za_103, za_104, za_105, za_106, za_107, za_108]
      unfold B_X8_turn_30 B_X8_turn_35
      simp (disch := omega) only [zi_t, zi_f, bnd_t, zg_in, zx, nI_ltI, nI_leI, nI_eq, nI_add, pk_mul, pk_sub, mup_s, mup_c, mup_j, mrw_c, if_pos, if_neg, zm_1, zm_2, zm_3, zm_4, zm_5, zm_6, zm_7, zm_8, zm_9, zf_0, zf_1, zf_2, zf_3, zf_4, zf_5, zf_6, zf_7, zf_8, zf_9, zf_10, zf_14, zf_15, zf_16, zf_18, zf_19, zf_20, zf_24, zf_30, zf_31, zf_32, zf_33, zf_99, zf_100, zf_160, zf_200, zf_287, zf_288, zf_300, zf_1000, zf_1023, zf_1024, zf_1600, zf_3840, zf_25600, zf_36000, zf_1000000, zf_1000000000, zf_2000000000, zf_11560, za_1, za_2, za_4, za_5, za_6, za_7, za_8, za_9, za_10, za_11, za_12, za_14, za_15, za_22, za_23, za_25, za_26, za_27, za_28, za_29, za_30, za_31, za_32, za_33, za_34, za_35, za_41, za_42, za_43, za_44, za_45, za_46, za_47, za_48, za_49, za_61, za_62, za_63, za_64, za_65, za_71, za_72, za_73, za_74, za_75, za_76, za_77, za_78, za_79, za_80, za_81, za_82, za_83, za_84, za_85, za_86, za_87, za_88, za_89, za_90, za_91, za_92, za_93, za_94, za_95, za_96, za_97, za_98, za_99, za_100, za_101, za_102, za_103, za_104, za_105, za_106, za_107, za_108]
      rw [cal_t (fine_x (by omega) (by omega))]
      simp (disch := omega) only [zi_t, zi_f, bnd_t, zg_in, zx, nI_ltI, nI_leI, nI_eq, nI_add, pk_mul, pk_sub, mup_s, mup_c, mup_j, mrw_c, if_pos, if_neg, zm_1, zm_2, zm_3, zm_4, zm_5, zm_6, zm_7, zm_8, zm_9, zf_0, zf_1, zf_2, zf_3, zf_4, zf_5, zf_6, zf_7, zf_8, zf_9, zf_10, zf_14, zf_15, zf_16, zf_18, zf_19, zf_20, zf_24, zf_30, zf_31, zf_32, zf_33, zf_99, zf_100, zf_160, zf_200, zf_287, zf_288, zf_300, zf_1000, zf_1023, zf_1024, zf_1600, zf_3840, zf_25600, zf_36000, zf_1000000, zf_1000000000, zf_2000000000, zf_11560, za_1, za_2, za_4, za_5, za_6, za_7, za_8, za_9, za_10, za_11, za_12, za_14, za_15, za_22, za_23, za_25, za_26, za_27, za_28, za_29, za_30, za_31, za_32, za_33, za_34, za_35, za_41, za_42, za_43, za_44, za_45, za_46, za_47, za_48, za_49, za_61, za_62, za_63, za_64, za_65, za_71, za_72, za_73, za_74, za_75, za_76, za_77, za_78, za_79, za_80, za_81, za_82, za_83, za_84, za_85, za_86, za_87, za_88, za_89, za_90, za_91, za_92, za_93, za_94, za_95, za_96, za_97, za_98, za_99, za_100, za_101, za_102, za_103, za_104, za_105, za_106, za_107, za_108]
  · refine sim_no hV 2 (fun m hC => ?_) (fun m hM => ?_)
    · show F_X7_turn N m _ = _
      unfold F_X7_turn
      rw [calx_e (need_no hC v1 hx)]
    · show F_X8_turn N m _ = _
      unfold F_X8_turn
      rw [cal_t (ism_no hM v1 hx)]
      simp (disch := omega) only [zi_t, zi_f, bnd_t, zg_in, zx, nI_ltI, nI_leI, nI_eq, nI_add, pk_mul, pk_sub, mup_s, mup_c, mup_j, mrw_c, if_pos, if_neg, zm_1, zm_2, zm_3, zm_4, zm_5, zm_6, zm_7, zm_8, zm_9, zf_0, zf_1, zf_2, zf_3, zf_4, zf_5, zf_6, zf_7, zf_8, zf_9, zf_10, zf_14, zf_15, zf_16, zf_18, zf_19, zf_20, zf_24, zf_30, zf_31, zf_32, zf_33, zf_99, zf_100, zf_160, zf_200, zf_287, zf_288, zf_300, zf_1000, zf_1023, zf_1024, zf_1600, zf_3840, zf_25600, zf_36000, zf_1000000, zf_1000000000, zf_2000000000, zf_11560, za_1, za_2, za_4, za_5, za_6, za_7, za_8, za_9, za_10, za_11, za_12, za_14, za_15, za_22, za_23, za_25, za_26, za_27, za_28, za_29, za_30, za_31, za_32, za_33, za_34, za_35, za_41, za_42, za_43, za_44, za_45, za_46, za_47, za_48, za_49, za_61, za_62, za_63, za_64, za_65, za_71, za_72, za_73, za_74, za_75, za_76, za_77, za_78, za_79, za_80, za_81, za_82, za_83, za_84, za_85, za_86, za_87, za_88, za_89, za_90, za_91, za_92, za_93, za_94, za_95, za_96, za_97, za_98, za_99, za_100, za_101, za_102, za_103, za_104, za_105, za_106, za_107, za_108]
      unfold B_X8_turn_35
      rw [cal_t (fine_x (by omega) (by omega))]
      simp (disch := omega) only [zi_t, zi_f, bnd_t, zg_in, zx, nI_ltI, nI_leI, nI_eq, nI_add, pk_mul, pk_sub, mup_s, mup_c, mup_j, mrw_c, if_pos, if_neg, zm_1, zm_2, zm_3, zm_4, zm_5, zm_6, zm_7, zm_8, zm_9, zf_0, zf_1, zf_2, zf_3, zf_4, zf_5, zf_6, zf_7, zf_8, zf_9, zf_10, zf_14, zf_15, zf_16, zf_18, zf_19, zf_20, zf_24, zf_30, zf_31, zf_32, zf_33, zf_99, zf_100, zf_160, zf_200, zf_287, zf_288, zf_300, zf_1000, zf_1023, zf_1024, zf_1600, zf_3840, zf_25600, zf_36000, zf_1000000, zf_1000000000, zf_2000000000, zf_11560, za_1, za_2, za_4, za_5, za_6, za_7, za_8, za_9, za_10, za_11, za_12, za_14, za_15, za_22, za_23, za_25, za_26, za_27, za_28, za_29, za_30, za_31, za_32, za_33, za_34, za_35, za_41, za_42, za_43, za_44, za_45, za_46, za_47, za_48, za_49, za_61, za_62, za_63, za_64, za_65, za_71, za_72, za_73, za_74, za_75, za_76, za_77, za_78, za_79, za_80, za_81, za_82, za_83, za_84, za_85, za_86, za_87, za_88, za_89, za_90, za_91, za_92, za_93, za_94, za_95, za_96, za_97, za_98, za_99, za_100, za_101, za_102, za_103, za_104, za_105, za_106, za_107, za_108]
theorem sim_side {N : Nat} (hN : 40000 < N) (x : Int32) (u : Bool) (Ms : List Ma) (w : List Nat) (ls : Ls) (hV : InV Ms w ls) : Sim1 (fun e => nI (3 - e)) (fun m => F_X7_side N m x (bI u)) (fun m => F_X8_side N m x (bI u)) Ms w ls := by
  have v1 := hV.1
  rcases i32_cases x Ms.length with ⟨i, hi, rfl⟩ | hx
  · obtain ⟨n, f, L, gA⟩ := ma_get hi
    have vA := hV.2.1 _ (List.mem_of_getElem? gA)
    have a1 : 1 ≤ n := vA.1
    have a2 : n ≤ 32 := vA.2.1
    have a3 : L.length ≤ 160 := vA.2.2.1
    obtain ⟨k1, k2, k3⟩ := sd_af (u := u) vA
    refine sim_makeJ (n := n) (st := 0) hN hV rfl (by omega) (by omega) (by rw [List.length_map]; omega) k1 (by rw [List.length_map]; omega) (k1.wd (by omega)) (fun _ => Iff.rfl) (fun _ _ => rfl) k2 k3 (fun m hC => cl_side hN vA v1 hi hC (hC.2.1 i _ gA)) (fun m hM hl24 => ?_) (fun m hM hl24 => ?_)
    · obtain ⟨mw, g1, g2, g3⟩ := mw_sides (u := u) hN vA (by omega) (hM.2.1 i _ gA)
      refine ⟨mw, g1, g2, fun b m1 hm1 => ?_⟩
      show F_X8_side N m _ _ = _
      unfold F_X8_side
      rw [cal_t (ism_ok hM v1 hi)]
      simp (disch := omega) only [zi_t, zi_f, bnd_t, zg_in, zx, nI_ltI, nI_leI, nI_eq, nI_add, pk_mul, pk_sub, mup_s, mup_c, mup_j, mrw_c, if_pos, if_neg, zm_1, zm_2, zm_3, zm_4, zm_5, zm_6, zm_7, zm_8, zm_9, zf_0, zf_1, zf_2, zf_3, zf_4, zf_5, zf_6, zf_7, zf_8, zf_9, zf_10, zf_14, zf_15, zf_16, zf_18, zf_19, zf_20, zf_24, zf_30, zf_31, zf_32, zf_33, zf_99, zf_100, zf_160, zf_200, zf_287, zf_288, zf_300, zf_1000, zf_1023, zf_1024, zf_1600, zf_3840, zf_25600, zf_36000, zf_1000000, zf_1000000000, zf_2000000000, zf_11560, za_1, za_2, za_4, za_5, za_6, za_7, za_8, za_9, za_10, za_11, za_12, za_14, za_15, za_22, za_23, za_25, za_26, za_27, za_28, za_29, za_30, za_31, za_32, za_33, za_34, za_35, za_41, za_42, za_43, za_44, za_45, za_46, za_47, za_48, za_49, za_61, za_62, za_63, za_64, za_65, za_71, za_72, za_73, za_74, za_75, za_76, za_77, za_78, za_79, za_80, za_81, za_82, za_83, za_84, za_85, za_86, za_87, za_88, za_89, za_90, za_91, za_92, za_93, za_94, za_95, za_96, za_97, za_98, za_99, za_100, za_101, za_102, za_103, za_104, za_105, za_106, za_107, za_108]
      rw [cal_t (ist_y hM hl24)]
      simp (disch := omega) only [zi_t, zi_f, bnd_t, zg_in, zx, nI_ltI, nI_leI, nI_eq, nI_add, pk_mul, pk_sub, mup_s, mup_c, mup_j, mrw_c, if_pos, if_neg, zm_1, zm_2, zm_3, zm_4, zm_5, zm_6, zm_7, zm_8, zm_9, zf_0, zf_1, zf_2, zf_3, zf_4, zf_5, zf_6, zf_7, zf_8, zf_9, zf_10, zf_14, zf_15, zf_16, zf_18, zf_19, zf_20, zf_24, zf_30, zf_31, zf_32, zf_33, zf_99, zf_100, zf_160, zf_200, zf_287, zf_288, zf_300, zf_1000, zf_1023, zf_1024, zf_1600, zf_3840, zf_25600, zf_36000, zf_1000000, zf_1000000000, zf_2000000000, zf_11560, za_1, za_2, za_4, za_5, za_6, za_7, za_8, za_9, za_10, za_11, za_12, za_14, za_15, za_22, za_23, za_25, za_26, za_27, za_28, za_29, za_30, za_31, za_32, za_33, za_34, za_35, za_41, za_42, za_43, za_44, za_45, za_46, za_47, za_48, za_49, za_61, za_62, za_63, za_64, za_65, za_71, za_72, za_73, za_74, za_75, za_76, za_77, za_78, za_79, za_80, za_81, za_82, za_83, za_84, za_85, za_86, za_87, za_88, za_89, za_90, za_91, za_92, za_93, za_94, za_95, za_96, za_97, za_98, za_99, za_100, za_101, za_102, za_103, za_104, za_105, za_106, za_107, za_108]
      rw [g3, cal_t (tW_of hm1)]
      cases b
      · rfl
      · rfl
    · show F_X8_side N m _ _ = _
      unfold F_X8_side
      rw [cal_t (ism_ok hM v1 hi)]
      simp (disch := omega) only [zi_t, zi_f, bnd_t, zg_in, zx, nI_ltI, nI_leI, nI_eq, nI_add, pk_mul, pk_sub, mup_s, mup_c, mup_j, mrw_c, if_pos, if_neg, zm_1, zm_2, zm_3, zm_4, zm_5, zm_6, zm_7, zm_8, zm_9, zf_0, zf_1, zf_2, zf_3, zf_4, zf_5, zf_6, zf_7, zf_8, zf_9, zf_10, zf_14, zf_15, zf_16, zf_18, zf_19, zf_20, zf_24, zf_30, zf_31, zf_32, zf_33, zf_99, zf_100, zf_160, zf_200, zf_287, zf_288, zf_300, zf_1000, zf_1023, zf_1024, zf_1600, zf_3840, zf_25600, zf_36000, zf_1000000, zf_1000000000, zf_2000000000, zf_11560, za_1, za_2, za_4, za_5, za_6, za_7, za_8, za_9, za_10, za_11, za_12, za_14, za_15, za_22, za_23, za_25, za_26, za_27, za_28, za_29, za_30, za_31, za_32, za_33, za_34, za_35, za_41, za_42, za_43, za_44, za_45, za_46, za_47, za_48, za_49, za_61, za_62, za_63, za_64, za_65, za_71, za_72, za_73, za_74, za_75, za_76, za_77, za_78, za_79, za_80, za_81, za_82, za_83, za_84, za_85, za_86, za_87, za_88, za_89, za_90, za_91, za_92, za_93, za_94, za_95, za_96, za_97, za_98, za_99, za_100, za_101, za_102, za_103, za_104, za_105, za_106, za_107, za_108]
      rw [cal_t (ist_n hM v1 hl24)]
      simp (disch := omega) only [zi_t, zi_f, bnd_t, zg_in, zx, nI_ltI, nI_leI, nI_eq, nI_add, pk_mul, pk_sub, mup_s, mup_c, mup_j, mrw_c, if_pos, if_neg, zm_1, zm_2, zm_3, zm_4, zm_5, zm_6, zm_7, zm_8, zm_9, zf_0, zf_1, zf_2, zf_3, zf_4, zf_5, zf_6, zf_7, zf_8, zf_9, zf_10, zf_14, zf_15, zf_16, zf_18, zf_19, zf_20, zf_24, zf_30, zf_31, zf_32, zf_33, zf_99, zf_100, zf_160, zf_200, zf_287, zf_288, zf_300, zf_1000, zf_1023, zf_1024, zf_1600, zf_3840, zf_25600, zf_36000, zf_1000000, zf_1000000000, zf_2000000000, zf_11560, za_1, za_2, za_4, za_5, za_6, za_7, za_8, za_9, za_10, za_11, za_12, za_14, za_15, za_22, za_23, za_25, za_26, za_27, za_28, za_29, za_30, za_31, za_32, za_33, za_34, za_35, za_41, za_42, za_43, za_44, za_45, za_46, za_47, za_48, za_49, za_61, za_62, za_63, za_64, za_65, za_71, za_72, za_73, za_74, za_75, za_76, za_77, za_78, za_79, za_80, za_81, za_82, za_83, za_84, za_85, za_86, za_87, za_88, za_89, za_90, za_91, za_92, za_93, za_94, za_95, za_96, za_97, za_98, za_99, za_100, za_101, za_102, za_103, za_104, za_105, za_106, za_107, za_108]
      unfold B_X8_side_31 B_X8_side_36
      simp (disch := omega) only [zi_t, zi_f, bnd_t, zg_in, zx, nI_ltI, nI_leI, nI_eq, nI_add, pk_mul, pk_sub, mup_s, mup_c, mup_j, mrw_c, if_pos, if_neg, zm_1, zm_2, zm_3, zm_4, zm_5, zm_6, zm_7, zm_8, zm_9, zf_0, zf_1, zf_2, zf_3, zf_4, zf_5, zf_6, zf_7, zf_8, zf_9, zf_10, zf_14, zf_15, zf_16, zf_18, zf_19, zf_20, zf_24, zf_30, zf_31, zf_32, zf_33, zf_99, zf_100, zf_160, zf_200, zf_287, zf_288, zf_300, zf_1000, zf_1023, zf_1024, zf_1600, zf_3840, zf_25600, zf_36000, zf_1000000, zf_1000000000, zf_2000000000, zf_11560, za_1, za_2, za_4, za_5, za_6, za_7, za_8, za_9, za_10, za_11, za_12, za_14, za_15, za_22, za_23, za_25, za_26, za_27, za_28, za_29, za_30, za_31, za_32, za_33, za_34, za_35, za_41, za_42, za_43, za_44, za_45, za_46, za_47, za_48, za_49, za_61, za_62, za_63, za_64, za_65, za_71, za_72, za_73, za_74, za_75, za_76, za_77, za_78, za_79, za_80, za_81, za_82, za_83, za_84, za_85, za_86, za_87, za_88, za_89, za_90, za_91, za_92, za_93, za_94, za_95, za_96, za_97, za_98, za_99, za_100, za_101, za_102, za_103, za_104, za_105, za_106, za_107, za_108]
      rw [cal_t (fine_x (by omega) (by omega))]
      simp (disch := omega) only [zi_t, zi_f, bnd_t, zg_in, zx, nI_ltI, nI_leI, nI_eq, nI_add, pk_mul, pk_sub, mup_s, mup_c, mup_j, mrw_c, if_pos, if_neg, zm_1, zm_2, zm_3, zm_4, zm_5, zm_6, zm_7, zm_8, zm_9, zf_0, zf_1, zf_2, zf_3, zf_4, zf_5, zf_6, zf_7, zf_8, zf_9, zf_10, zf_14, zf_15, zf_16, zf_18, zf_19, zf_20, zf_24, zf_30, zf_31, zf_32, zf_33, zf_99, zf_100, zf_160, zf_200, zf_287, zf_288, zf_300, zf_1000, zf_1023, zf_1024, zf_1600, zf_3840, zf_25600, zf_36000, zf_1000000, zf_1000000000, zf_2000000000, zf_11560, za_1, za_2, za_4, za_5, za_6, za_7, za_8, za_9, za_10, za_11, za_12, za_14, za_15, za_22, za_23, za_25, za_26, za_27, za_28, za_29, za_30, za_31, za_32, za_33, za_34, za_35, za_41, za_42, za_43, za_44, za_45, za_46, za_47, za_48, za_49, za_61, za_62, za_63, za_64, za_65, za_71, za_72, za_73, za_74, za_75, za_76, za_77, za_78, za_79, za_80, za_81, za_82, za_83, za_84, za_85, za_86, za_87, za_88, za_89, za_90, za_91, za_92, za_93, za_94, za_95, za_96, za_97, za_98, za_99, za_100, za_101, za_102, za_103, za_104, za_105, za_106, za_107, za_108]
  · refine sim_no hV 2 (fun m hC => ?_) (fun m hM => ?_)
    · show F_X7_side N m _ _ = _
      unfold F_X7_side
      rw [calx_e (need_no hC v1 hx)]
    · show F_X8_side N m _ _ = _
      unfold F_X8_side
      rw [cal_t (ism_no hM v1 hx)]
      simp (disch := omega) only [zi_t, zi_f, bnd_t, zg_in, zx, nI_ltI, nI_leI, nI_eq, nI_add, pk_mul, pk_sub, mup_s, mup_c, mup_j, mrw_c, if_pos, if_neg, zm_1, zm_2, zm_3, zm_4, zm_5, zm_6, zm_7, zm_8, zm_9, zf_0, zf_1, zf_2, zf_3, zf_4, zf_5, zf_6, zf_7, zf_8, zf_9, zf_10, zf_14, zf_15, zf_16, zf_18, zf_19, zf_20, zf_24, zf_30, zf_31, zf_32, zf_33, zf_99, zf_100, zf_160, zf_200, zf_287, zf_288, zf_300, zf_1000, zf_1023, zf_1024, zf_1600, zf_3840, zf_25600, zf_36000, zf_1000000, zf_1000000000, zf_2000000000, zf_11560, za_1, za_2, za_4, za_5, za_6, za_7, za_8, za_9, za_10, za_11, za_12, za_14, za_15, za_22, za_23, za_25, za_26, za_27, za_28, za_29, za_30, za_31, za_32, za_33, za_34, za_35, za_41, za_42, za_43, za_44, za_45, za_46, za_47, za_48, za_49, za_61, za_62, za_63, za_64, za_65, za_71, za_72, za_73, za_74, za_75, za_76, za_77, za_78, za_79, za_80, za_81, za_82, za_83, za_84, za_85, za_86, za_87, za_88, za_89, za_90, za_91, za_92, za_93, za_94, za_95, za_96, za_97, za_98, za_99, za_100, za_101, za_102, za_103, za_104, za_105, za_106, za_107, za_108]
      unfold B_X8_side_36
      rw [cal_t (fine_x (by omega) (by omega))]
      simp (disch := omega) only [zi_t, zi_f, bnd_t, zg_in, zx, nI_ltI, nI_leI, nI_eq, nI_add, pk_mul, pk_sub, mup_s, mup_c, mup_j, mrw_c, if_pos, if_neg, zm_1, zm_2, zm_3, zm_4, zm_5, zm_6, zm_7, zm_8, zm_9, zf_0, zf_1, zf_2, zf_3, zf_4, zf_5, zf_6, zf_7, zf_8, zf_9, zf_10, zf_14, zf_15, zf_16, zf_18, zf_19, zf_20, zf_24, zf_30, zf_31, zf_32, zf_33, zf_99, zf_100, zf_160, zf_200, zf_287, zf_288, zf_300, zf_1000, zf_1023, zf_1024, zf_1600, zf_3840, zf_25600, zf_36000, zf_1000000, zf_1000000000, zf_2000000000, zf_11560, za_1, za_2, za_4, za_5, za_6, za_7, za_8, za_9, za_10, za_11, za_12, za_14, za_15, za_22, za_23, za_25, za_26, za_27, za_28, za_29, za_30, za_31, za_32, za_33, za_34, za_35, za_41, za_42, za_43, za_44, za_45, za_46, za_47, za_48, za_49, za_61, za_62, za_63, za_64, za_65, za_71, za_72, za_73, za_74, za_75, za_76, za_77, za_78, za_79, za_80, za_81, za_82, za_83, za_84, za_85, za_86, za_87, za_88, za_89, za_90, za_91, za_92, za_93, za_94, za_95, za_96, za_97, za_98, za_99, za_100, za_101, za_102, za_103, za_104, za_105, za_106, za_107, za_108]
