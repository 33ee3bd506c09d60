theorem mw_cp186 {N i j k nA nB : Nat} {x y : Int32} {LA D : ArL} {q : Nat × Nat} {m0 m : Mem} {rec : Mem → Int32 → Int32 → Int32 → Int32 → Option (Int32 × Mem)} (hN : 40000 < N) (hi : i < 24) (h : MW m (fun _ => false) D) (hF : Fx 80 83 [14] m0 m) (hA2 : nA ≤ 32) (hB1 : 1 ≤ nB) (hB2 : nB ≤ 32) (mA : MM m0 i nA x LA) (hq : LA[k]? = some q) (hk : k < 160) (okA : DOK nA LA) (hD : D.length ≤ 30000) :
    ∃ m', Fx 80 83 [14] m0 m' ∧ MW m' (fun _ => false) (D ++ mv1 nB q) ∧ L_X8_composes_186 N rec N m (nI i) (nI j) (nI nB) (nI (160 * i + k)) (nI 0) = rec m' (nI i) (nI j) (nI nB) (nI (160 * i + (k + 1))) := by
  have hn2 : nA * nB ≤ 1024 := Nat.mul_le_mul hA2 hB2
  have hqm := okA q (List.mem_of_getElem? hq)
  have hq2 : q.1 / 262144 < nA := hqm.2.1
  have hq3 : q.1 % 1024 < nA := hqm.2.2.1
  have hq4 : q.1 / 16384 % 16 ≤ 8 := hqm.2.2.2.1
  have hq5 : q.1 / 1024 % 16 ≤ 8 := hqm.2.2.2.2.1
  by_cases c1 : q.1 / 1024 % 16 = 8
  · have hmv : mv1 nB q = bA (fun s => (pkA (q.1 / 262144 * nB + s) (q.1 / 16384 % 16) 8 (q.1 % 1024 * nB + s), q.2)) nB := if_pos c1
    refine loopF (fun g (m : Mem) s => L_X8_composes_186 N rec g m (nI i) (nI j) (nI nB) (nI (160 * i + k)) (nI s)) nB (fun s m' => Fx 80 83 [14] m0 m' ∧ MW m' (fun _ => false) (D ++ bA (fun s => (pkA (q.1 / 262144 * nB + s) (q.1 / 16384 % 16) 8 (q.1 % 1024 * nB + s), q.2)) s))
      (fun o => ∃ m', Fx 80 83 [14] m0 m' ∧ MW m' (fun _ => false) (D ++ mv1 nB q) ∧ o = rec m' (nI i) (nI j) (nI nB) (nI (160 * i + (k + 1)))) ?_ ?_ N 0 m (Nat.zero_le _) ⟨hF, by show MW m _ (_ ++ []); rw [List.append_nil]; exact h⟩ (by omega)
    · rintro g s m2 hs ⟨k1, k2⟩
      obtain ⟨b75, b76, b77, b78, b79⟩ := (mA.fx k1 (by omega)).2.2.2 k q hq
      have s1 := cp_lt hq2 hs
      have s2 := cp_lt hq3 hs
      obtain ⟨m3, g1, g2, g3⟩ := mw_adds (N := N) (s := nB * (q.1 / 262144) + s) (u := q.1 / 16384 % 16) (l := 8) (t := nB * (q.1 % 1024) + s) (c := q.2) k2 (by rw [List.length_append, bA_len]; omega) (by rw [Nat.mul_comm]; omega) hq4 (by omega) (by rw [Nat.mul_comm]; omega)
      refine Or.inl ⟨m3, ⟨k1.tr (g3.wd (by omega) (by omega) (by simp)), ?_⟩, ?_⟩
      · rw [bA_s, ← List.append_assoc]
        rw [Nat.mul_comm nB (q.1 / 262144), Nat.mul_comm nB (q.1 % 1024)] at g2
        exact g2
      · show S_X8_composes_186 N rec (L_X8_composes_186 N rec g) m2 (nI i) (nI j) (nI nB) (nI (160 * i + k)) (nI s) = _
        unfold S_X8_composes_186
        simp (disch := omega) only [zi_t, zi_f, bnd_t, zg_in, zx, nI_ltI, nI_leI, nI_eq, nI_add, pk_mul, pk_sub, mup_s, mup_c, mup_j, mrw_c, if_pos, if_neg, zm_1, zm_2, zm_3, zm_4, zm_5, zm_6, zm_7, zm_8, zm_9, zf_0, zf_1, zf_2, zf_3, zf_4, zf_5, zf_6, zf_7, zf_8, zf_9, zf_10, zf_14, zf_15, zf_16, zf_18, zf_19, zf_20, zf_24, zf_30, zf_31, zf_32, zf_33, zf_99, zf_100, zf_160, zf_200, zf_287, zf_288, zf_300, zf_1000, zf_1023, zf_1024, zf_1600, zf_3840, zf_25600, zf_36000, zf_1000000, zf_1000000000, zf_2000000000, zf_11560, za_1, za_2, za_4, za_5, za_6, za_7, za_8, za_9, za_10, za_11, za_12, za_14, za_15, za_22, za_23, za_25, za_26, za_27, za_28, za_29, za_30, za_31, za_32, za_33, za_34, za_35, za_41, za_42, za_43, za_44, za_45, za_46, za_47, za_48, za_49, za_61, za_62, za_63, za_64, za_65, za_71, za_72, za_73, za_74, za_75, za_76, za_77, za_78, za_79, za_80, za_81, za_82, za_83, za_84, za_85, za_86, za_87, za_88, za_89, za_90, za_91, za_92, za_93, za_94, za_95, za_96, za_97, za_98, za_99, za_100, za_101, za_102, za_103, za_104, za_105, za_106, za_107, za_108, b75, b76, b77, b78, b79, c1]
        rw [calv_t g1]
    · rintro g m2 ⟨k1, k2⟩
      refine ⟨m2, k1, by rw [hmv]; exact k2, ?_⟩
      show S_X8_composes_186 N rec (L_X8_composes_186 N rec g) m2 (nI i) (nI j) (nI nB) (nI (160 * i + k)) (nI nB) = _
      unfold S_X8_composes_186 B_X8_composes_254
      simp (disch := omega) only [zi_t, zi_f, bnd_t, zg_in, zx, nI_ltI, nI_leI, nI_eq, nI_add, pk_mul, pk_sub, mup_s, mup_c, mup_j, mrw_c, if_pos, if_neg, zm_1, zm_2, zm_3, zm_4, zm_5, zm_6, zm_7, zm_8, zm_9, zf_0, zf_1, zf_2, zf_3, zf_4, zf_5, zf_6, zf_7, zf_8, zf_9, zf_10, zf_14, zf_15, zf_16, zf_18, zf_19, zf_20, zf_24, zf_30, zf_31, zf_32, zf_33, zf_99, zf_100, zf_160, zf_200, zf_287, zf_288, zf_300, zf_1000, zf_1023, zf_1024, zf_1600, zf_3840, zf_25600, zf_36000, zf_1000000, zf_1000000000, zf_2000000000, zf_11560, za_1, za_2, za_4, za_5, za_6, za_7, za_8, za_9, za_10, za_11, za_12, za_14, za_15, za_22, za_23, za_25, za_26, za_27, za_28, za_29, za_30, za_31, za_32, za_33, za_34, za_35, za_41, za_42, za_43, za_44, za_45, za_46, za_47, za_48, za_49, za_61, za_62, za_63, za_64, za_65, za_71, za_72, za_73, za_74, za_75, za_76, za_77, za_78, za_79, za_80, za_81, za_82, za_83, za_84, za_85, za_86, za_87, za_88, za_89, za_90, za_91, za_92, za_93, za_94, za_95, za_96, za_97, za_98, za_99, za_100, za_101, za_102, za_103, za_104, za_105, za_106, za_107, za_108]
      rfl
  · have hmv : mv1 nB q = [] := if_neg c1
    obtain ⟨b75, b76, b77, b78, b79⟩ := (mA.fx hF (by omega)).2.2.2 k q hq
    refine ⟨m, hF, by rw [hmv, List.append_nil]; exact h, ?_⟩
    obtain ⟨g, rfl⟩ : ∃ g, N = g + 1 := ⟨N - 1, by omega⟩
    show S_X8_composes_186 (g + 1) rec (L_X8_composes_186 (g + 1) rec g) m (nI i) (nI j) (nI nB) (nI (160 * i + k)) (nI 0) = _
    unfold S_X8_composes_186 B_X8_composes_254
    have hu : lwr q.1 ≤ 8 := hq5
    have c2 : ¬ nI (lwr q.1) = nI 8 := fun h => c1 ((nI_eq (a := lwr q.1) (b := 8) (by omega) (by omega)).mp h)
    simp (disch := omega) only [zi_t, zi_f, bnd_t, zg_in, zx, nI_ltI, nI_leI, nI_eq, nI_add, pk_mul, pk_sub, mup_s, mup_c, mup_j, mrw_c, if_pos, if_neg, zm_1, zm_2, zm_3, zm_4, zm_5, zm_6, zm_7, zm_8, zm_9, zf_0, zf_1, zf_2, zf_3, zf_4, zf_5, zf_6, zf_7, zf_8, zf_9, zf_10, zf_14, zf_15, zf_16, zf_18, zf_19, zf_20, zf_24, zf_30, zf_31, zf_32, zf_33, zf_99, zf_100, zf_160, zf_200, zf_287, zf_288, zf_300, zf_1000, zf_1023, zf_1024, zf_1600, zf_3840, zf_25600, zf_36000, zf_1000000, zf_1000000000, zf_2000000000, zf_11560, za_1, za_2, za_4, za_5, za_6, za_7, za_8, za_9, za_10, za_11, za_12, za_14, za_15, za_22, za_23, za_25, za_26, za_27, za_28, za_29, za_30, za_31, za_32, za_33, za_34, za_35, za_41, za_42, za_43, za_44, za_45, za_46, za_47, za_48, za_49, za_61, za_62, za_63, za_64, za_65, za_71, za_72, za_73, za_74, za_75, za_76, za_77, za_78, za_79, za_80, za_81, za_82, za_83, za_84, za_85, za_86, za_87, za_88, za_89, za_90, za_91, za_92, za_93, za_94, za_95, za_96, za_97, za_98, za_99, za_100, za_101, za_102, za_103, za_104, za_105, za_106, za_107, za_108, b77, c2]
    rfl
theorem mw_cp42 {N i j k nA nB : Nat} {x y : Int32} {LA LB D : ArL} {q : Nat × Nat} {m0 m : Mem} {rec : Mem → Int32 → Int32 → Int32 → Int32 → Option (Int32 × Mem)} (hN : 40000 < N) (hi : i < 24) (hj : j < 24) (h : MW m (fun _ => false) D) (hF : Fx 80 83 [14] m0 m) (hA2 : nA ≤ 32) (hB1 : 1 ≤ nB) (hB2 : nB ≤ 32) (mA : MM m0 i nA x LA) (mB : MM m0 j nB y LB) (hq : LA[k]? = some q) (hk : k < 160) (okA : DOK nA LA) (okB : DOK nB LB) (lB : LB.length ≤ 160) (hD : D.length ≤ 26000) :
    ∃ m', Fx 80 83 [14] m0 m' ∧ (((∃ b, b ∈ LB ∧ Dear q b) ∧ L_X8_composes_42 N rec N m (nI i) (nI j) (nI nB) (nI (160 * i + k)) (nI (160 * j)) = some (nI 0, m')) ∨
      ((∀ b, b ∈ LB → ¬ Dear q b) ∧ MW m' (fun _ => false) (D ++ mts nB LB q) ∧ L_X8_composes_42 N rec N m (nI i) (nI j) (nI nB) (nI (160 * i + k)) (nI (160 * j)) = L_X8_composes_186 N rec N m' (nI i) (nI j) (nI nB) (nI (160 * i + k)) (nI 0))) := by
  have hn2 : nA * nB ≤ 1024 := Nat.mul_le_mul hA2 hB2
  have hqm := okA q (List.mem_of_getElem? hq)
  have hq2 : q.1 / 262144 < nA := hqm.2.1
  have hq3 : q.1 % 1024 < nA := hqm.2.2.1
  have hq4 : q.1 / 16384 % 16 ≤ 8 := hqm.2.2.2.1
  have hq5 : q.1 / 1024 % 16 ≤ 8 := hqm.2.2.2.2.1
  have hq6 : q.2 ≤ 1000000 := hqm.2.2.2.2.2
  refine loopF (fun g (m : Mem) l => L_X8_composes_42 N rec g m (nI i) (nI j) (nI nB) (nI (160 * i + k)) (nI (160 * j + l))) LB.length (fun l m' => Fx 80 83 [14] m0 m' ∧ MW m' (fun _ => false) (D ++ (LB.take l).filterMap (mt nB q)) ∧ ∀ b, b ∈ LB.take l → ¬ Dear q b)
    (fun o => ∃ m', Fx 80 83 [14] m0 m' ∧ (((∃ b, b ∈ LB ∧ Dear q b) ∧ o = some (nI 0, m')) ∨ ((∀ b, b ∈ LB → ¬ Dear q b) ∧ MW m' (fun _ => false) (D ++ mts nB LB q) ∧ o = L_X8_composes_186 N rec N m' (nI i) (nI j) (nI nB) (nI (160 * i + k)) (nI 0)))) ?_ ?_ N 0 m (Nat.zero_le _) ⟨hF, by show MW m _ (_ ++ []); rw [List.append_nil]; exact h, fun b hb => (by cases hb)⟩ (by omega)
  · rintro g l m2 hl ⟨k1, k2, k3⟩
    obtain ⟨b, hb⟩ : ∃ b, LB[l]? = some b := ⟨_, List.getElem?_eq_getElem hl⟩
    have hbL := List.mem_of_getElem? hb
    have hbm := okB b hbL
    have hb2 : b.1 / 262144 < nB := hbm.2.1
    have hb3 : b.1 % 1024 < nB := hbm.2.2.1
    have hb4 : b.1 / 16384 % 16 ≤ 8 := hbm.2.2.2.1
    have hb5 : b.1 / 1024 % 16 ≤ 8 := hbm.2.2.2.2.1
    have hb6 : b.2 ≤ 1000000 := hbm.2.2.2.2.2
    have a77 : m2 77 (160 * i + k) = nI (q.1 / 1024 % 16) := ((mA.fx k1 (by omega)).2.2.2 k q hq).2.2.1
    have a75 : m2 75 (160 * i + k) = nI (q.1 / 262144) := ((mA.fx k1 (by omega)).2.2.2 k q hq).1
    have a76 : m2 76 (160 * i + k) = nI (q.1 / 16384 % 16) := ((mA.fx k1 (by omega)).2.2.2 k q hq).2.1
    have a78 : m2 78 (160 * i + k) = nI q.2 := ((mA.fx k1 (by omega)).2.2.2 k q hq).2.2.2.1
    have a79 : m2 79 (160 * i + k) = nI (q.1 % 1024) := ((mA.fx k1 (by omega)).2.2.2 k q hq).2.2.2.2
    have b74 := (mB.fx k1 (by omega)).2.2.1
    have b75 : m2 75 (160 * j + l) = nI (b.1 / 262144) := ((mB.fx k1 (by omega)).2.2.2 l b hb).1
    have b76 : m2 76 (160 * j + l) = nI (b.1 / 16384 % 16) := ((mB.fx k1 (by omega)).2.2.2 l b hb).2.1
    have b77 : m2 77 (160 * j + l) = nI (b.1 / 1024 % 16) := ((mB.fx k1 (by omega)).2.2.2 l b hb).2.2.1
    have b78 : m2 78 (160 * j + l) = nI b.2 := ((mB.fx k1 (by omega)).2.2.2 l b hb).2.2.2.1
    have b79 : m2 79 (160 * j + l) = nI (b.1 % 1024) := ((mB.fx k1 (by omega)).2.2.2 l b hb).2.2.2.2
    have hlast : ∀ c, c ∈ LB.take (l + 1) → c ∈ LB.take l ∨ c = b := by
      intro c hc
      rw [List.take_add_one, hb] at hc
      rcases List.mem_append.mp hc with e | e
      · exact Or.inl e
      · exact Or.inr (List.mem_singleton.mp e)
    have hmt : mt nB q b = if q.1 / 1024 % 16 = 8 then none else if q.1 / 1024 % 16 = b.1 / 16384 % 16 then some (pkA (q.1 / 262144 * nB + b.1 / 262144) (q.1 / 16384 % 16) (b.1 / 1024 % 16) (q.1 % 1024 * nB + b.1 % 1024), q.2 + b.2) else none := rfl
    have skip : mt nB q b = none → ¬ Dear q b → (∃ s', (Fx 80 83 [14] m0 s' ∧ MW s' (fun _ => false) (D ++ (LB.take (l + 1)).filterMap (mt nB q)) ∧ ∀ b, b ∈ LB.take (l + 1) → ¬ Dear q b) ∧ s' = m2) := by
      intro hm hnd
      refine ⟨m2, ⟨k1, ?_, ?_⟩, rfl⟩
      · rw [flt_s hb, hm]
        show MW m2 _ (_ ++ (_ ++ []))
        rw [List.append_nil]; exact k2
      · intro c hc
        rcases hlast c hc with e | e
        · exact k3 c e
        · rw [e]; exact hnd
    by_cases c1 : q.1 / 1024 % 16 = 8
    · obtain ⟨s', p1, rfl⟩ := skip (by rw [hmt, if_pos c1]) (fun hd => hd.1 c1)
      refine Or.inl ⟨s', p1, ?_⟩
      show S_X8_composes_42 N rec (L_X8_composes_42 N rec g) s' (nI i) (nI j) (nI nB) (nI (160 * i + k)) (nI (160 * j + l)) = _
      unfold S_X8_composes_42 B_X8_composes_177
      simp (disch := omega) only [zi_t, zi_f, bnd_t, zg_in, zx, nI_ltI, nI_leI, nI_eq, nI_add, pk_mul, pk_sub, mup_s, mup_c, mup_j, mrw_c, if_pos, if_neg, zm_1, zm_2, zm_3, zm_4, zm_5, zm_6, zm_7, zm_8, zm_9, zf_0, zf_1, zf_2, zf_3, zf_4, zf_5, zf_6, zf_7, zf_8, zf_9, zf_10, zf_14, zf_15, zf_16, zf_18, zf_19, zf_20, zf_24, zf_30, zf_31, zf_32, zf_33, zf_99, zf_100, zf_160, zf_200, zf_287, zf_288, zf_300, zf_1000, zf_1023, zf_1024, zf_1600, zf_3840, zf_25600, zf_36000, zf_1000000, zf_1000000000, zf_2000000000, zf_11560, za_1, za_2, za_4, za_5, za_6, za_7, za_8, za_9, za_10, za_11, za_12, za_14, za_15, za_22, za_23, za_25, za_26, za_27, za_28, za_29, za_30, za_31, za_32, za_33, za_34, za_35, za_41, za_42, za_43, za_44, za_45, za_46, za_47, za_48, za_49, za_61, za_62, za_63, za_64, za_65, za_71, za_72, za_73, za_74, za_75, za_76, za_77, za_78, za_79, za_80, za_81, za_82, za_83, za_84, za_85, za_86, za_87, za_88, za_89, za_90, za_91, za_92, za_93, za_94, za_95, za_96, za_97, za_98, za_99, za_100, za_101, za_102, za_103, za_104, za_105, za_106, za_107, za_108, b74, a77]
      rfl
    · by_cases c2 : q.1 / 1024 % 16 = b.1 / 16384 % 16
      · by_cases c3 : q.2 + b.2 ≤ 1000000
        · have s1 := cp_lt hq2 hb2
          have s2 := cp_lt hq3 hb3
          obtain ⟨m3, g1, g2, g3⟩ := mw_adds (N := N) (s := nB * (q.1 / 262144) + b.1 / 262144) (u := q.1 / 16384 % 16) (l := b.1 / 1024 % 16) (t := nB * (q.1 % 1024) + b.1 % 1024) (c := q.2 + b.2) k2 (by
            have := List.length_filterMap_le (mt nB q) (LB.take l)
            rw [List.length_take] at this
            rw [List.length_append]; omega) (by rw [Nat.mul_comm]; omega) hq4 hb5 (by rw [Nat.mul_comm]; omega)
          refine Or.inl ⟨m3, ⟨k1.tr (g3.wd (by omega) (by omega) (by simp)), ?_, ?_⟩, ?_⟩
          · rw [flt_s hb, hmt, if_neg c1, if_pos c2, ← List.append_assoc]
            rw [Nat.mul_comm nB (q.1 / 262144), Nat.mul_comm nB (q.1 % 1024)] at g2
            exact g2
          · intro c hc
            rcases hlast c hc with e | e
            · exact k3 c e
            · rw [e]; intro hd; have := hd.2.2; omega
          · show S_X8_composes_42 N rec (L_X8_composes_42 N rec g) m2 (nI i) (nI j) (nI nB) (nI (160 * i + k)) (nI (160 * j + l)) = _
            unfold S_X8_composes_42 B_X8_composes_177
            simp (disch := omega) only [zi_t, zi_f, bnd_t, zg_in, zx, nI_ltI, nI_leI, nI_eq, nI_add, pk_mul, pk_sub, mup_s, mup_c, mup_j, mrw_c, if_pos, if_neg, zm_1, zm_2, zm_3, zm_4, zm_5, zm_6, zm_7, zm_8, zm_9, zf_0, zf_1, zf_2, zf_3, zf_4, zf_5, zf_6, zf_7, zf_8, zf_9, zf_10, zf_14, zf_15, zf_16, zf_18, zf_19, zf_20, zf_24, zf_30, zf_31, zf_32, zf_33, zf_99, zf_100, zf_160, zf_200, zf_287, zf_288, zf_300, zf_1000, zf_1023, zf_1024, zf_1600, zf_3840, zf_25600, zf_36000, zf_1000000, zf_1000000000, zf_2000000000, zf_11560, za_1, za_2, za_4, za_5, za_6, za_7, za_8, za_9, za_10, za_11, za_12, za_14, za_15, za_22, za_23, za_25, za_26, za_27, za_28, za_29, za_30, za_31, za_32, za_33, za_34, za_35, za_41, za_42, za_43, za_44, za_45, za_46, za_47, za_48, za_49, za_61, za_62, za_63, za_64, za_65, za_71, za_72, za_73, za_74, za_75, za_76, za_77, za_78, za_79, za_80, za_81, za_82, za_83, za_84, za_85, za_86, za_87, za_88, za_89, za_90, za_91, za_92, za_93, za_94, za_95, za_96, za_97, za_98, za_99, za_100, za_101, za_102, za_103, za_104, za_105, za_106, za_107, za_108, b74, a75, a76, a77, a78, a79, b75, b76, b77, b78, b79]
            rw [calv_t g1]
            rfl
        · refine Or.inr ⟨m2, k1, Or.inl ⟨⟨b, hbL, c1, c2, by omega⟩, ?_⟩⟩
          show S_X8_composes_42 N rec (L_X8_composes_42 N rec g) m2 (nI i) (nI j) (nI nB) (nI (160 * i + k)) (nI (160 * j + l)) = _
          unfold S_X8_composes_42 B_X8_composes_177
          simp (disch := omega) only [zi_t, zi_f, bnd_t, zg_in, zx, nI_ltI, nI_leI, nI_eq, nI_add, pk_mul, pk_sub, mup_s, mup_c, mup_j, mrw_c, if_pos, if_neg, zm_1, zm_2, zm_3, zm_4, zm_5, zm_6, zm_7, zm_8, zm_9, zf_0, zf_1, zf_2, zf_3, zf_4, zf_5, zf_6, zf_7, zf_8, zf_9, zf_10, zf_14, zf_15, zf_16, zf_18, zf_19, zf_20, zf_24, zf_30, zf_31, zf_32, zf_33, zf_99, zf_100, zf_160, zf_200, zf_287, zf_288, zf_300, zf_1000, zf_1023, zf_1024, zf_1600, zf_3840, zf_25600, zf_36000, zf_1000000, zf_1000000000, zf_2000000000, zf_11560, za_1, za_2, za_4, za_5, za_6, za_7, za_8, za_9, za_10, za_11, za_12, za_14, za_15, za_22, za_23, za_25, za_26, za_27, za_28, za_29, za_30, za_31, za_32, za_33, za_34, za_35, za_41, za_42, za_43, za_44, za_45, za_46, za_47, za_48, za_49, za_61, za_62, za_63, za_64, za_65, za_71, za_72, za_73, za_74, za_75, za_76, za_77, za_78, za_79, za_80, za_81, za_82, za_83, za_84, za_85, za_86, za_87, za_88, za_89, za_90, za_91, za_92, za_93, za_94, za_95, za_96, za_97, za_98, za_99, za_100, za_101, za_102, za_103, za_104, za_105, za_106, za_107, za_108, b74, a75, a76, a77, a78, a79, b75, b76, b77, b78, b79]
      · obtain ⟨s', p1, rfl⟩ := skip (by rw [hmt, if_neg c1, if_neg c2]) (fun hd => c2 hd.2.1)
        refine Or.inl ⟨s', p1, ?_⟩
        show S_X8_composes_42 N rec (L_X8_composes_42 N rec g) s' (nI i) (nI j) (nI nB) (nI (160 * i + k)) (nI (160 * j + l)) = _
        unfold S_X8_composes_42 B_X8_composes_177
        simp (disch := omega) only [zi_t, zi_f, bnd_t, zg_in, zx, nI_ltI, nI_leI, nI_eq, nI_add, pk_mul, pk_sub, mup_s, mup_c, mup_j, mrw_c, if_pos, if_neg, zm_1, zm_2, zm_3, zm_4, zm_5, zm_6, zm_7, zm_8, zm_9, zf_0, zf_1, zf_2, zf_3, zf_4, zf_5, zf_6, zf_7, zf_8, zf_9, zf_10, zf_14, zf_15, zf_16, zf_18, zf_19, zf_20, zf_24, zf_30, zf_31, zf_32, zf_33, zf_99, zf_100, zf_160, zf_200, zf_287, zf_288, zf_300, zf_1000, zf_1023, zf_1024, zf_1600, zf_3840, zf_25600, zf_36000, zf_1000000, zf_1000000000, zf_2000000000, zf_11560, za_1, za_2, za_4, za_5, za_6, za_7, za_8, za_9, za_10, za_11, za_12, za_14, za_15, za_22, za_23, za_25, za_26, za_27, za_28, za_29, za_30, za_31, za_32, za_33, za_34, za_35, za_41, za_42, za_43, za_44, za_45, za_46, za_47, za_48, za_49, za_61, za_62, za_63, za_64, za_65, za_71, za_72, za_73, za_74, za_75, za_76, za_77, za_78, za_79, za_80, za_81, za_82, za_83, za_84, za_85, za_86, za_87, za_88, za_89, za_90, za_91, za_92, za_93, za_94, za_95, za_96, za_97, za_98, za_99, za_100, za_101, za_102, za_103, za_104, za_105, za_106, za_107, za_108, b74, a77, b76]
        rfl
  · rintro g m2 ⟨k1, k2, k3⟩
    have b74 := (mB.fx k1 (by omega)).2.2.1
    rw [List.take_of_length_le (Nat.le_refl _)] at k2 k3
    refine ⟨m2, k1, Or.inr ⟨k3, k2, ?_⟩⟩
    show S_X8_composes_42 N rec (L_X8_composes_42 N rec g) m2 (nI i) (nI j) (nI nB) (nI (160 * i + k)) (nI (160 * j + LB.length)) = _
    unfold S_X8_composes_42
    simp (disch := omega) only [zi_t, zi_f, bnd_t, zg_in, zx, nI_ltI, nI_leI, nI_eq, nI_add, pk_mul, pk_sub, mup_s, mup_c, mup_j, mrw_c, if_pos, if_neg, zm_1, zm_2, zm_3, zm_4, zm_5, zm_6, zm_7, zm_8, zm_9, zf_0, zf_1, zf_2, zf_3, zf_4, zf_5, zf_6, zf_7, zf_8, zf_9, zf_10, zf_14, zf_15, zf_16, zf_18, zf_19, zf_20, zf_24, zf_30, zf_31, zf_32, zf_33, zf_99, zf_100, zf_160, zf_200, zf_287, zf_288, zf_300, zf_1000, zf_1023, zf_1024, zf_1600, zf_3840, zf_25600, zf_36000, zf_1000000, zf_1000000000, zf_2000000000, zf_11560, za_1, za_2, za_4, za_5, za_6, za_7, za_8, za_9, za_10, za_11, za_12, za_14, za_15, za_22, za_23, za_25, za_26, za_27, za_28, za_29, za_30, za_31, za_32, za_33, za_34, za_35, za_41, za_42, za_43, za_44, za_45, za_46, za_47, za_48, za_49, za_61, za_62, za_63, za_64, za_65, za_71, za_72, za_73, za_74, za_75, za_76, za_77, za_78, za_79, za_80, za_81, za_82, za_83, za_84, za_85, za_86, za_87, za_88, za_89, za_90, za_91, za_92, za_93, za_94, za_95, za_96, za_97, za_98, za_99, za_100, za_101, za_102, za_103, za_104, za_105, za_106, za_107, za_108, b74]
theorem mw_composes {N i j nA nB : Nat} {fA fB : Nat → Bool} {LA LB : ArL} {m : Mem} (hN : 40000 < N) (hA : VM (nA, fA, LA)) (hB : VM (nB, fB, LB)) (hi : i < 24) (hj : j < 24) (mA : MM m i nA (eB fA nA) LA) (mB : MM m j nB (eB fB nB) LB) :
    ∃ m', Fx 80 83 [14] m m' ∧ (((∃ a b, a ∈ LA ∧ b ∈ LB ∧ Dear a b) ∧ F_X8_composes N m (nI i) (nI j) = some (nI 0, m')) ∨ ((∀ a b, a ∈ LA → b ∈ LB → ¬ Dear a b) ∧ MW m' (cmE fA fB nB (nB * nA)) (cpM nA nB LA LB) ∧ F_X8_composes N m (nI i) (nI j) = tW N m' (nI 0))) := by
  obtain ⟨a1, a2, a3, a4, a5, a6, a7⟩ := hA
  obtain ⟨b1, b2, b3, b4, b5, b6, b7⟩ := hB
  have a2 : nA ≤ 32 := a2
  have b1 : 1 ≤ nB := b1
  have b2 : nB ≤ 32 := b2
  have a3 : LA.length ≤ 160 := a3
  have b3 : LB.length ≤ 160 := b3
  have a5 : DOK nA LA := a5
  have b5 : DOK nB LB := b5
  obtain ⟨m2, c1, c2, c3⟩ := mw_begins (N := N) (m := m) (by omega)
  have f2 : Fx 80 83 [14] m m2 := c3.wd (by omega) (by omega) (by simp)
  have x1 := (mB.fx f2 (by omega)).1
  unfold F_X8_composes
  rw [calv_t c1]
  simp (disch := omega) only [zi_t, zi_f, bnd_t, zg_in, zx, nI_ltI, nI_leI, nI_eq, nI_add, pk_mul, pk_sub, mup_s, mup_c, mup_j, mrw_c, if_pos, if_neg, zm_1, zm_2, zm_3, zm_4, zm_5, zm_6, zm_7, zm_8, zm_9, zf_0, zf_1, zf_2, zf_3, zf_4, zf_5, zf_6, zf_7, zf_8, zf_9, zf_10, zf_14, zf_15, zf_16, zf_18, zf_19, zf_20, zf_24, zf_30, zf_31, zf_32, zf_33, zf_99, zf_100, zf_160, zf_200, zf_287, zf_288, zf_300, zf_1000, zf_1023, zf_1024, zf_1600, zf_3840, zf_25600, zf_36000, zf_1000000, zf_1000000000, zf_2000000000, zf_11560, za_1, za_2, za_4, za_5, za_6, za_7, za_8, za_9, za_10, za_11, za_12, za_14, za_15, za_22, za_23, za_25, za_26, za_27, za_28, za_29, za_30, za_31, za_32, za_33, za_34, za_35, za_41, za_42, za_43, za_44, za_45, za_46, za_47, za_48, za_49, za_61, za_62, za_63, za_64, za_65, za_71, za_72, za_73, za_74, za_75, za_76, za_77, za_78, za_79, za_80, za_81, za_82, za_83, za_84, za_85, za_86, za_87, za_88, za_89, za_90, za_91, za_92, za_93, za_94, za_95, za_96, za_97, za_98, za_99, za_100, za_101, za_102, za_103, za_104, za_105, za_106, za_107, za_108, x1]
  have hfl : ∀ k, ((LA.take k).flatMap (mtv nB LB)).length ≤ 160 * LA.length := by
    intro k
    have := fm_len (h := mtv nB LB) (c := 160) (LA.take k) (fun a _ => mtv_160 b3 b2 a)
    rw [List.length_take] at this
    omega
  refine loopF (fun F (m : Mem) k => L_X8_composes_18 N F m (nI i) (nI j) (nI nB) (nI (160 * i + k))) LA.length (fun k m' => Fx 80 83 [14] m m' ∧ MW m' (fun _ => false) ((LA.take k).flatMap (mtv nB LB)) ∧ ∀ a b, a ∈ LA.take k → b ∈ LB → ¬ Dear a b)
    (fun o => ∃ m', Fx 80 83 [14] m m' ∧ (((∃ a b, a ∈ LA ∧ b ∈ LB ∧ Dear a b) ∧ o = some (nI 0, m')) ∨ ((∀ a b, a ∈ LA → b ∈ LB → ¬ Dear a b) ∧ MW m' (cmE fA fB nB (nB * nA)) (cpM nA nB LA LB) ∧ o = tW N m' (nI 0)))) ?_ ?_ N 0 m2 (Nat.zero_le _) ⟨f2, c2, fun a b ha => (by cases ha)⟩ (by omega)
  · rintro F k m3 hk ⟨k1, k2, k3⟩
    obtain ⟨q, hq⟩ : ∃ q, LA[k]? = some q := ⟨_, List.getElem?_eq_getElem hk⟩
    have hqL := List.mem_of_getElem? hq
    have b74 := (mA.fx k1 (by omega)).2.2.1
    have hl := hfl k
    have hstep : L_X8_composes_18 N (F + 1) m3 (nI i) (nI j) (nI nB) (nI (160 * i + k)) = L_X8_composes_42 N (L_X8_composes_18 N F) N m3 (nI i) (nI j) (nI nB) (nI (160 * i + k)) (nI (160 * j)) := by
      show S_X8_composes_18 N (L_X8_composes_18 N F) m3 (nI i) (nI j) (nI nB) (nI (160 * i + k)) = _
      unfold S_X8_composes_18
      simp (disch := omega) only [zi_t, zi_f, bnd_t, zg_in, zx, nI_ltI, nI_leI, nI_eq, nI_add, pk_mul, pk_sub, mup_s, mup_c, mup_j, mrw_c, if_pos, if_neg, zm_1, zm_2, zm_3, zm_4, zm_5, zm_6, zm_7, zm_8, zm_9, zf_0, zf_1, zf_2, zf_3, zf_4, zf_5, zf_6, zf_7, zf_8, zf_9, zf_10, zf_14, zf_15, zf_16, zf_18, zf_19, zf_20, zf_24, zf_30, zf_31, zf_32, zf_33, zf_99, zf_100, zf_160, zf_200, zf_287, zf_288, zf_300, zf_1000, zf_1023, zf_1024, zf_1600, zf_3840, zf_25600, zf_36000, zf_1000000, zf_1000000000, zf_2000000000, zf_11560, za_1, za_2, za_4, za_5, za_6, za_7, za_8, za_9, za_10, za_11, za_12, za_14, za_15, za_22, za_23, za_25, za_26, za_27, za_28, za_29, za_30, za_31, za_32, za_33, za_34, za_35, za_41, za_42, za_43, za_44, za_45, za_46, za_47, za_48, za_49, za_61, za_62, za_63, za_64, za_65, za_71, za_72, za_73, za_74, za_75, za_76, za_77, za_78, za_79, za_80, za_81, za_82, za_83, za_84, za_85, za_86, za_87, za_88, za_89, za_90, za_91, za_92, za_93, za_94, za_95, za_96, za_97, za_98, za_99, za_100, za_101, za_102, za_103, za_104, za_105, za_106, za_107, za_108, b74]
    rw [hstep]
    obtain ⟨m4, p1, p2⟩ := mw_cp42 (rec := L_X8_composes_18 N F) hN hi hj k2 k1 a2 b1 b2 mA mB hq (by omega) a5 b5 b3 (by omega)
    rcases p2 with ⟨⟨b, hb, hd⟩, p3⟩ | ⟨p3, p4, p5⟩
    · exact Or.inr ⟨m4, p1, Or.inl ⟨⟨q, b, hqL, hb, hd⟩, p3⟩⟩
    · obtain ⟨m5, q1, q2, q3⟩ := mw_cp186 (j := j) (y := nI 0) (rec := L_X8_composes_18 N F) hN hi p4 p1 a2 b1 b2 mA hq (by omega) a5 (by
        rw [List.length_append]
        have := mts_160 (nB := nB) b3 q
        omega)
      refine Or.inl ⟨m5, ⟨q1, ?_, ?_⟩, by rw [p5, q3]⟩
      · rw [fm_s hq, ← List.append_assoc]; exact q2
      · intro a b ha hb
        rw [List.take_add_one, hq] at ha
        rcases List.mem_append.mp ha with e | e
        · exact k3 a b e hb
        · have : a = q := List.mem_singleton.mp e
          rw [this]; exact p3 b hb
  · rintro F m3 ⟨k1, k2, k3⟩
    rw [List.take_of_length_le (Nat.le_refl _)] at k2 k3
    have b74 := (mA.fx k1 (by omega)).2.2.1
    have hl := hfl LA.length
    rw [List.take_of_length_le (Nat.le_refl _)] at hl
    obtain ⟨m4, p1, p2, p3⟩ := mw_cpMoves hN hi hj k2 k1 a2 b1 b2 mA mB b5 b3 (by omega)
    refine ⟨m4, p1, Or.inr ⟨k3, p2, ?_⟩⟩
    show S_X8_composes_18 N (L_X8_composes_18 N F) m3 (nI i) (nI j) (nI nB) (nI (160 * i + LA.length)) = _
    unfold S_X8_composes_18
    simp (disch := omega) only [zi_t, zi_f, bnd_t, zg_in, zx, nI_ltI, nI_leI, nI_eq, nI_add, pk_mul, pk_sub, mup_s, mup_c, mup_j, mrw_c, if_pos, if_neg, zm_1, zm_2, zm_3, zm_4, zm_5, zm_6, zm_7, zm_8, zm_9, zf_0, zf_1, zf_2, zf_3, zf_4, zf_5, zf_6, zf_7, zf_8, zf_9, zf_10, zf_14, zf_15, zf_16, zf_18, zf_19, zf_20, zf_24, zf_30, zf_31, zf_32, zf_33, zf_99, zf_100, zf_160, zf_200, zf_287, zf_288, zf_300, zf_1000, zf_1023, zf_1024, zf_1600, zf_3840, zf_25600, zf_36000, zf_1000000, zf_1000000000, zf_2000000000, zf_11560, za_1, za_2, za_4, za_5, za_6, za_7, za_8, za_9, za_10, za_11, za_12, za_14, za_15, za_22, za_23, za_25, za_26, za_27, za_28, za_29, za_30, za_31, za_32, za_33, za_34, za_35, za_41, za_42, za_43, za_44, za_45, za_46, za_47, za_48, za_49, za_61, za_62, za_63, za_64, za_65, za_71, za_72, za_73, za_74, za_75, za_76, za_77, za_78, za_79, za_80, za_81, za_82, za_83, za_84, za_85, za_86, za_87, za_88, za_89, za_90, za_91, za_92, za_93, za_94, za_95, za_96, za_97, za_98, za_99, za_100, za_101, za_102, za_103, za_104, za_105, za_106, za_107, za_108, b74]
    exact p3
theorem sim_noX {κ : Nat → Int32} {c : Mem → Option ((Int32 ⊕ Nat) × Mem)} {d : Mem → Option (Int32 × Mem)} {Ms : List Ma} {w : List Nat} {ls : Ls} (hV : InV Ms w ls) (x : Nat) (hc : ∀ m, InC m Ms w ls → ∃ m1, c m = some (.inr x, m1) ∧ InC m1 Ms w ls ∧ ∀ k, 64 ≤ k → k < 200 → m1 k = m k) (hd : ∀ m, InM m Ms w ls → ∃ m2, d m = some (nI 0, mup m2 70 0 (κ x)) ∧ InM m2 Ms w ls ∧ ∀ k, (k < 70 ∨ 108 ≤ k) → m2 k = m k) : Sim1 κ c d Ms w ls :=
  ⟨.inr x, κ x, nI 0, Ms, w, ls, hV, fun m h => hc m h, fun m h => by
    obtain ⟨m2, h1, h2, h3⟩ := hd m h
    exact mor_no h2 h1 h3, rfl, fun v hv => by cases hv⟩
theorem sim_compose {N : Nat} (hN : 40000 < N) (x y : Int32) (Ms : List Ma) (w : List Nat) (ls : Ls) (hV : InV Ms w ls) : Sim1 (fun e => nI (3 - e)) (fun m => F_X7_compose N m x y) (fun m => F_X8_compose N m x y) Ms w ls := by
  have v1 := hV.1
  rcases i32_cases x Ms.length with ⟨i, hi, rfl⟩ | hx
  · rcases i32_cases y Ms.length with ⟨j, hj, rfl⟩ | hy
    · obtain ⟨nA, fA, LA, gA⟩ := ma_get hi
      obtain ⟨nB, fB, LB, gB⟩ := ma_get hj
      have vA := hV.2.1 _ (List.mem_of_getElem? gA)
      have vB := hV.2.1 _ (List.mem_of_getElem? gB)
      have a1 : 1 ≤ nA := vA.1
      have a2 : nA ≤ 32 := vA.2.1
      have b1 : 1 ≤ nB := vB.1
      have b2 : nB ≤ 32 := vB.2.1
      have a3 : LA.length ≤ 160 := vA.2.2.1
      have b3 : LB.length ≤ 160 := vB.2.2.1
      have a5 : DOK nA LA := vA.2.2.2.2.1
      have b5 : DOK nB LB := vB.2.2.2.2.1
      have hn2 : nA * nB ≤ 1024 := Nat.mul_le_mul a2 b2
      have hn1 : 0 < nA * nB := Nat.mul_pos (by omega) (by omega)
      have hcl : ∀ m, InC m Ms w ls → ∃ m2 m', Off 3 16 m m' ∧ (((∃ a b, a ∈ LA ∧ b ∈ LB ∧ Dear a b) ∧ F_X7_compose N m (nI i) (nI j) = some (.inr 1, m')) ∨ ((∀ a b, a ∈ LA → b ∈ LB → ¬ Dear a b) ∧ F_X7_compose N m (nI i) (nI j) = calx (F_X7_keepDraft N m') (fun r m => some (.inl r, m)) ∧ DR m' (nA * nB) 0 (cpE fA fB nB nA) (cpD nA nB LA LB) ∧ m2 = m')) := by
        intro m hC
        have mA : MC m (200 + 4 * i) nA (eB fA nA) LA := hC.2.1 i _ gA
        have mB : MC m (200 + 4 * j) nB (eB fB nB) LB := hC.2.1 j _ gB
        have xA := mA.1
        have xB := mB.1
        obtain ⟨m2, c1, c2, c3⟩ := dr_begin' (N := N) (n := nA * nB) (st := 0) (m := m) (by omega) hn2
        have f2 : Off 3 16 m m2 := c3.wd (by omega) (by omega)
        obtain ⟨m3, d1, d2⟩ := cl_meets hN c2 rfl a2 b2 (by omega) (by omega) (mA.off (by omega) f2) (mB.off (by omega) f2) a5 b5 a3 b3
        have f3 : Off 3 16 m m3 := f2.tr d1
        rcases d2 with ⟨d2, d3⟩ | ⟨d2, d3, d4⟩
        · refine ⟨m3, m3, f3, Or.inl ⟨d2, ?_⟩⟩
          unfold F_X7_compose
          rw [calx_t (need_ok hC v1 hi), calx_t (need_ok hC v1 hj)]
          simp (disch := omega) only [zi_t, zi_f, bnd_t, zg_in, zx, nI_ltI, nI_leI, nI_eq, nI_add, pk_mul, pk_sub, mup_s, mup_c, mup_j, mrw_c, if_pos, if_neg, zm_1, zm_2, zm_3, zm_4, zm_5, zm_6, zm_7, zm_8, zm_9, zf_0, zf_1, zf_2, zf_3, zf_4, zf_5, zf_6, zf_7, zf_8, zf_9, zf_10, zf_14, zf_15, zf_16, zf_18, zf_19, zf_20, zf_24, zf_30, zf_31, zf_32, zf_33, zf_99, zf_100, zf_160, zf_200, zf_287, zf_288, zf_300, zf_1000, zf_1023, zf_1024, zf_1600, zf_3840, zf_25600, zf_36000, zf_1000000, zf_1000000000, zf_2000000000, zf_11560, za_1, za_2, za_4, za_5, za_6, za_7, za_8, za_9, za_10, za_11, za_12, za_14, za_15, za_22, za_23, za_25, za_26, za_27, za_28, za_29, za_30, za_31, za_32, za_33, za_34, za_35, za_41, za_42, za_43, za_44, za_45, za_46, za_47, za_48, za_49, za_61, za_62, za_63, za_64, za_65, za_71, za_72, za_73, za_74, za_75, za_76, za_77, za_78, za_79, za_80, za_81, za_82, za_83, za_84, za_85, za_86, za_87, za_88, za_89, za_90, za_91, za_92, za_93, za_94, za_95, za_96, za_97, za_98, za_99, za_100, za_101, za_102, za_103, za_104, za_105, za_106, za_107, za_108, xA, xB]
          rw [calv_t c1, cal_t d3]
          simp (disch := omega) only [zi_t, zi_f, bnd_t, zg_in, zx, nI_ltI, nI_leI, nI_eq, nI_add, pk_mul, pk_sub, mup_s, mup_c, mup_j, mrw_c, if_pos, if_neg, zm_1, zm_2, zm_3, zm_4, zm_5, zm_6, zm_7, zm_8, zm_9, zf_0, zf_1, zf_2, zf_3, zf_4, zf_5, zf_6, zf_7, zf_8, zf_9, zf_10, zf_14, zf_15, zf_16, zf_18, zf_19, zf_20, zf_24, zf_30, zf_31, zf_32, zf_33, zf_99, zf_100, zf_160, zf_200, zf_287, zf_288, zf_300, zf_1000, zf_1023, zf_1024, zf_1600, zf_3840, zf_25600, zf_36000, zf_1000000, zf_1000000000, zf_2000000000, zf_11560, za_1, za_2, za_4, za_5, za_6, za_7, za_8, za_9, za_10, za_11, za_12, za_14, za_15, za_22, za_23, za_25, za_26, za_27, za_28, za_29, za_30, za_31, za_32, za_33, za_34, za_35, za_41, za_42, za_43, za_44, za_45, za_46, za_47, za_48, za_49, za_61, za_62, za_63, za_64, za_65, za_71, za_72, za_73, za_74, za_75, za_76, za_77, za_78, za_79, za_80, za_81, za_82, za_83, za_84, za_85, za_86, za_87, za_88, za_89, za_90, za_91, za_92, za_93, za_94, za_95, za_96, za_97, za_98, za_99, za_100, za_101, za_102, za_103, za_104, za_105, za_106, za_107, za_108]
        · have hlen := cp_len (LA := LA) (LB := LB) a2 b2 a3 b3
          have xB3 := (mB.off (by omega) f3).1
          obtain ⟨m4, e1, e2, e3⟩ := cl_moves1 hN d4 rfl a2 b2 (by omega) (mA.off (by omega) f3) a5 a3 (by omega)
          have f4 : Off 3 16 m m4 := f3.tr e3
          have xA4 := (mA.off (by omega) f4).1
          obtain ⟨m5, g1, g2, g3⟩ := cl_moves2 hN e2 rfl a2 b2 (by omega) (mB.off (by omega) f4) b5 b3 (by rw [List.length_append]; omega)
          have f5 : Off 3 16 m m5 := f4.tr g3
          obtain ⟨m6, k1, k2, k3⟩ := cl_bothEnds hN g2 rfl a2 b1 b2 (by omega) (by omega) (mA.off (by omega) f5) (mB.off (by omega) f5)
          refine ⟨m6, m6, f5.tr k3, Or.inr ⟨d2, ?_, k2, rfl⟩⟩
          unfold F_X7_compose
          rw [calx_t (need_ok hC v1 hi), calx_t (need_ok hC v1 hj)]
          simp (disch := omega) only [zi_t, zi_f, bnd_t, zg_in, zx, nI_ltI, nI_leI, nI_eq, nI_add, pk_mul, pk_sub, mup_s, mup_c, mup_j, mrw_c, if_pos, if_neg, zm_1, zm_2, zm_3, zm_4, zm_5, zm_6, zm_7, zm_8, zm_9, zf_0, zf_1, zf_2, zf_3, zf_4, zf_5, zf_6, zf_7, zf_8, zf_9, zf_10, zf_14, zf_15, zf_16, zf_18, zf_19, zf_20, zf_24, zf_30, zf_31, zf_32, zf_33, zf_99, zf_100, zf_160, zf_200, zf_287, zf_288, zf_300, zf_1000, zf_1023, zf_1024, zf_1600, zf_3840, zf_25600, zf_36000, zf_1000000, zf_1000000000, zf_2000000000, zf_11560, za_1, za_2, za_4, za_5, za_6, za_7, za_8, za_9, za_10, za_11, za_12, za_14, za_15, za_22, za_23, za_25, za_26, za_27, za_28, za_29, za_30, za_31, za_32, za_33, za_34, za_35, za_41, za_42, za_43, za_44, za_45, za_46, za_47, za_48, za_49, za_61, za_62, za_63, za_64, za_65, za_71, za_72, za_73, za_74, za_75, za_76, za_77, za_78, za_79, za_80, za_81, za_82, za_83, za_84, za_85, za_86, za_87, za_88, za_89, za_90, za_91, za_92, za_93, za_94, za_95, za_96, za_97, za_98, za_99, za_100, za_101, za_102, za_103, za_104, za_105, za_106, za_107, za_108, xA, xB]
          rw [calv_t c1, cal_t d3]
          simp (disch := omega) only [zi_t, zi_f, bnd_t, zg_in, zx, nI_ltI, nI_leI, nI_eq, nI_add, pk_mul, pk_sub, mup_s, mup_c, mup_j, mrw_c, if_pos, if_neg, zm_1, zm_2, zm_3, zm_4, zm_5, zm_6, zm_7, zm_8, zm_9, zf_0, zf_1, zf_2, zf_3, zf_4, zf_5, zf_6, zf_7, zf_8, zf_9, zf_10, zf_14, zf_15, zf_16, zf_18, zf_19, zf_20, zf_24, zf_30, zf_31, zf_32, zf_33, zf_99, zf_100, zf_160, zf_200, zf_287, zf_288, zf_300, zf_1000, zf_1023, zf_1024, zf_1600, zf_3840, zf_25600, zf_36000, zf_1000000, zf_1000000000, zf_2000000000, zf_11560, za_1, za_2, za_4, za_5, za_6, za_7, za_8, za_9, za_10, za_11, za_12, za_14, za_15, za_22, za_23, za_25, za_26, za_27, za_28, za_29, za_30, za_31, za_32, za_33, za_34, za_35, za_41, za_42, za_43, za_44, za_45, za_46, za_47, za_48, za_49, za_61, za_62, za_63, za_64, za_65, za_71, za_72, za_73, za_74, za_75, za_76, za_77, za_78, za_79, za_80, za_81, za_82, za_83, za_84, za_85, za_86, za_87, za_88, za_89, za_90, za_91, za_92, za_93, za_94, za_95, za_96, za_97, za_98, za_99, za_100, za_101, za_102, za_103, za_104, za_105, za_106, za_107, za_108]
          rw [xB3, calv_t e1, xA4, calv_t g1, calv_t k1]
      by_cases hdear : ∃ a b, a ∈ LA ∧ b ∈ LB ∧ Dear a b
      · refine sim_noX hV 1 (fun m hC => ?_) (fun m hM => ?_)
        · obtain ⟨_, m1, h1, h2⟩ := hcl m hC
          rcases h2 with ⟨_, h3⟩ | ⟨h3, _⟩
          · exact ⟨m1, h3, hC.cg (fun k hk => h1 k (by omega)), fun k k1 k2 => h1 k (by omega)⟩
          · obtain ⟨a, b, ha, hb, hd⟩ := hdear
            exact absurd hd (h3 a b ha hb)
        · by_cases hl24 : Ms.length < 24
          · obtain ⟨m1, h1, h2⟩ := mw_composes hN vA vB (by omega) (by omega) (hM.2.1 i _ gA) (hM.2.1 j _ gB)
            rcases h2 with ⟨_, h3⟩ | ⟨h3, _⟩
            · refine ⟨m1, ?_, hM.fx h1 (by omega) (by omega) (by simp) (by simp) (by simp), fun k hk => h1.1 k (by omega) (by omega)⟩
              show F_X8_compose N m _ _ = _
              unfold F_X8_compose
              rw [cal_t (ism_ok hM v1 hi)]
              simp (disch := omega) only [zi_t, zi_f, bnd_t, zg_in, zx, nI_ltI, nI_leI, nI_eq, nI_add, pk_mul, pk_sub, mup_s, mup_c, mup_j, mrw_c, if_pos, if_neg, zm_1, zm_2, zm_3, zm_4, zm_5, zm_6, zm_7, zm_8, zm_9, zf_0, zf_1, zf_2, zf_3, zf_4, zf_5, zf_6, zf_7, zf_8, zf_9, zf_10, zf_14, zf_15, zf_16, zf_18, zf_19, zf_20, zf_24, zf_30, zf_31, zf_32, zf_33, zf_99, zf_100, zf_160, zf_200, zf_287, zf_288, zf_300, zf_1000, zf_1023, zf_1024, zf_1600, zf_3840, zf_25600, zf_36000, zf_1000000, zf_1000000000, zf_2000000000, zf_11560, za_1, za_2, za_4, za_5, za_6, za_7, za_8, za_9, za_10, za_11, za_12, za_14, za_15, za_22, za_23, za_25, za_26, za_27, za_28, za_29, za_30, za_31, za_32, za_33, za_34, za_35, za_41, za_42, za_43, za_44, za_45, za_46, za_47, za_48, za_49, za_61, za_62, za_63, za_64, za_65, za_71, za_72, za_73, za_74, za_75, za_76, za_77, za_78, za_79, za_80, za_81, za_82, za_83, za_84, za_85, za_86, za_87, za_88, za_89, za_90, za_91, za_92, za_93, za_94, za_95, za_96, za_97, za_98, za_99, za_100, za_101, za_102, za_103, za_104, za_105, za_106, za_107, za_108]
              rw [cal_t (ism_ok hM v1 hj)]
              simp (disch := omega) only [zi_t, zi_f, bnd_t, zg_in, zx, nI_ltI, nI_leI, nI_eq, nI_add, pk_mul, pk_sub, mup_s, mup_c, mup_j, mrw_c, if_pos, if_neg, zm_1, zm_2, zm_3, zm_4, zm_5, zm_6, zm_7, zm_8, zm_9, zf_0, zf_1, zf_2, zf_3, zf_4, zf_5, zf_6, zf_7, zf_8, zf_9, zf_10, zf_14, zf_15, zf_16, zf_18, zf_19, zf_20, zf_24, zf_30, zf_31, zf_32, zf_33, zf_99, zf_100, zf_160, zf_200, zf_287, zf_288, zf_300, zf_1000, zf_1023, zf_1024, zf_1600, zf_3840, zf_25600, zf_36000, zf_1000000, zf_1000000000, zf_2000000000, zf_11560, za_1, za_2, za_4, za_5, za_6, za_7, za_8, za_9, za_10, za_11, za_12, za_14, za_15, za_22, za_23, za_25, za_26, za_27, za_28, za_29, za_30, za_31, za_32, za_33, za_34, za_35, za_41, za_42, za_43, za_44, za_45, za_46, za_47, za_48, za_49, za_61, za_62, za_63, za_64, za_65, za_71, za_72, za_73, za_74, za_75, za_76, za_77, za_78, za_79, za_80, za_81, za_82, za_83, za_84, za_85, za_86, za_87, za_88, za_89, za_90, za_91, za_92, za_93, za_94, za_95, za_96, za_97, za_98, za_99, za_100, za_101, za_102, za_103, za_104, za_105, za_106, za_107, za_108]
              unfold B_X8_compose_21
              simp (disch := omega) only [zi_t, zi_f, bnd_t, zg_in, zx, nI_ltI, nI_leI, nI_eq, nI_add, pk_mul, pk_sub, mup_s, mup_c, mup_j, mrw_c, if_pos, if_neg, zm_1, zm_2, zm_3, zm_4, zm_5, zm_6, zm_7, zm_8, zm_9, zf_0, zf_1, zf_2, zf_3, zf_4, zf_5, zf_6, zf_7, zf_8, zf_9, zf_10, zf_14, zf_15, zf_16, zf_18, zf_19, zf_20, zf_24, zf_30, zf_31, zf_32, zf_33, zf_99, zf_100, zf_160, zf_200, zf_287, zf_288, zf_300, zf_1000, zf_1023, zf_1024, zf_1600, zf_3840, zf_25600, zf_36000, zf_1000000, zf_1000000000, zf_2000000000, zf_11560, za_1, za_2, za_4, za_5, za_6, za_7, za_8, za_9, za_10, za_11, za_12, za_14, za_15, za_22, za_23, za_25, za_26, za_27, za_28, za_29, za_30, za_31, za_32, za_33, za_34, za_35, za_41, za_42, za_43, za_44, za_45, za_46, za_47, za_48, za_49, za_61, za_62, za_63, za_64, za_65, za_71, za_72, za_73, za_74, za_75, za_76, za_77, za_78, za_79, za_80, za_81, za_82, za_83, za_84, za_85, za_86, za_87, za_88, za_89, za_90, za_91, za_92, za_93, za_94, za_95, za_96, za_97, za_98, za_99, za_100, za_101, za_102, za_103, za_104, za_105, za_106, za_107, za_108]
              rw [cal_t (ist_y hM hl24)]
              simp (disch := omega) only [zi_t, zi_f, bnd_t, zg_in, zx, nI_ltI, nI_leI, nI_eq, nI_add, pk_mul, pk_sub, mup_s, mup_c, mup_j, mrw_c, if_pos, if_neg, zm_1, zm_2, zm_3, zm_4, zm_5, zm_6, zm_7, zm_8, zm_9, zf_0, zf_1, zf_2, zf_3, zf_4, zf_5, zf_6, zf_7, zf_8, zf_9, zf_10, zf_14, zf_15, zf_16, zf_18, zf_19, zf_20, zf_24, zf_30, zf_31, zf_32, zf_33, zf_99, zf_100, zf_160, zf_200, zf_287, zf_288, zf_300, zf_1000, zf_1023, zf_1024, zf_1600, zf_3840, zf_25600, zf_36000, zf_1000000, zf_1000000000, zf_2000000000, zf_11560, za_1, za_2, za_4, za_5, za_6, za_7, za_8, za_9, za_10, za_11, za_12, za_14, za_15, za_22, za_23, za_25, za_26, za_27, za_28, za_29, za_30, za_31, za_32, za_33, za_34, za_35, za_41, za_42, za_43, za_44, za_45, za_46, za_47, za_48, za_49, za_61, za_62, za_63, za_64, za_65, za_71, za_72, za_73, za_74, za_75, za_76, za_77, za_78, za_79, za_80, za_81, za_82, za_83, za_84, za_85, za_86, za_87, za_88, za_89, za_90, za_91, za_92, za_93, za_94, za_95, za_96, za_97, za_98, za_99, za_100, za_101, za_102, za_103, za_104, za_105, za_106, za_107, za_108]
              rw [cal_t h3]
              simp (disch := omega) only [zi_t, zi_f, bnd_t, zg_in, zx, nI_ltI, nI_leI, nI_eq, nI_add, pk_mul, pk_sub, mup_s, mup_c, mup_j, mrw_c, if_pos, if_neg, zm_1, zm_2, zm_3, zm_4, zm_5, zm_6, zm_7, zm_8, zm_9, zf_0, zf_1, zf_2, zf_3, zf_4, zf_5, zf_6, zf_7, zf_8, zf_9, zf_10, zf_14, zf_15, zf_16, zf_18, zf_19, zf_20, zf_24, zf_30, zf_31, zf_32, zf_33, zf_99, zf_100, zf_160, zf_200, zf_287, zf_288, zf_300, zf_1000, zf_1023, zf_1024, zf_1600, zf_3840, zf_25600, zf_36000, zf_1000000, zf_1000000000, zf_2000000000, zf_11560, za_1, za_2, za_4, za_5, za_6, za_7, za_8, za_9, za_10, za_11, za_12, za_14, za_15, za_22, za_23, za_25, za_26, za_27, za_28, za_29, za_30, za_31, za_32, za_33, za_34, za_35, za_41, za_42, za_43, za_44, za_45, za_46, za_47, za_48, za_49, za_61, za_62, za_63, za_64, za_65, za_71, za_72, za_73, za_74, za_75, za_76, za_77, za_78, za_79, za_80, za_81, za_82, za_83, za_84, za_85, za_86, za_87, za_88, za_89, za_90, za_91, za_92, za_93, za_94, za_95, za_96, za_97, za_98, za_99, za_100, za_101, za_102, za_103, za_104, za_105, za_106, za_107, za_108]
              unfold B_X8_compose_47 B_X8_compose_52
              simp (disch := omega) only [zi_t, zi_f, bnd_t, zg_in, zx, nI_ltI, nI_leI, nI_eq, nI_add, pk_mul, pk_sub, mup_s, mup_c, mup_j, mrw_c, if_pos, if_neg, zm_1, zm_2, zm_3, zm_4, zm_5, zm_6, zm_7, zm_8, zm_9, zf_0, zf_1, zf_2, zf_3, zf_4, zf_5, zf_6, zf_7, zf_8, zf_9, zf_10, zf_14, zf_15, zf_16, zf_18, zf_19, zf_20, zf_24, zf_30, zf_31, zf_32, zf_33, zf_99, zf_100, zf_160, zf_200, zf_287, zf_288, zf_300, zf_1000, zf_1023, zf_1024, zf_1600, zf_3840, zf_25600, zf_36000, zf_1000000, zf_1000000000, zf_2000000000, zf_11560, za_1, za_2, za_4, za_5, za_6, za_7, za_8, za_9, za_10, za_11, za_12, za_14, za_15, za_22, za_23, za_25, za_26, za_27, za_28, za_29, za_30, za_31, za_32, za_33, za_34, za_35, za_41, za_42, za_43, za_44, za_45, za_46, za_47, za_48, za_49, za_61, za_62, za_63, za_64, za_65, za_71, za_72, za_73, za_74, za_75, za_76, za_77, za_78, za_79, za_80, za_81, za_82, za_83, za_84, za_85, za_86, za_87, za_88, za_89, za_90, za_91, za_92, za_93, za_94, za_95, za_96, za_97, za_98, za_99, za_100, za_101, za_102, za_103, za_104, za_105, za_106, za_107, za_108]
              rw [cal_t (fine_x (by omega) (by omega))]
              simp (disch := omega) only [zi_t, zi_f, bnd_t, zg_in, zx, nI_ltI, nI_leI, nI_eq, nI_add, pk_mul, pk_sub, mup_s, mup_c, mup_j, mrw_c, if_pos, if_neg, zm_1, zm_2, zm_3, zm_4, zm_5, zm_6, zm_7, zm_8, zm_9, zf_0, zf_1, zf_2, zf_3, zf_4, zf_5, zf_6, zf_7, zf_8, zf_9, zf_10, zf_14, zf_15, zf_16, zf_18, zf_19, zf_20, zf_24, zf_30, zf_31, zf_32, zf_33, zf_99, zf_100, zf_160, zf_200, zf_287, zf_288, zf_300, zf_1000, zf_1023, zf_1024, zf_1600, zf_3840, zf_25600, zf_36000, zf_1000000, zf_1000000000, zf_2000000000, zf_11560, za_1, za_2, za_4, za_5, za_6, za_7, za_8, za_9, za_10, za_11, za_12, za_14, za_15, za_22, za_23, za_25, za_26, za_27, za_28, za_29, za_30, za_31, za_32, za_33, za_34, za_35, za_41, za_42, za_43, za_44, za_45, za_46, za_47, za_48, za_49, za_61, za_62, za_63, za_64, za_65, za_71, za_72, za_73, za_74, za_75, za_76, za_77, za_78, za_79, za_80, za_81, za_82, za_83, za_84, za_85, za_86, za_87, za_88, za_89, za_90, za_91, za_92, za_93, za_94, za_95, za_96, za_97, za_98, za_99, za_100, za_101, za_102, za_103, za_104, za_105, za_106, za_107, za_108]
            · obtain ⟨a, b, ha, hb, hd⟩ := hdear
              exact absurd hd (h3 a b ha hb)
          · refine ⟨m, ?_, hM, fun _ _ => rfl⟩
            show F_X8_compose N m _ _ = _
            unfold F_X8_compose
            rw [cal_t (ism_ok hM v1 hi)]
            simp (disch := omega) only [zi_t, zi_f, bnd_t, zg_in, zx, nI_ltI, nI_leI, nI_eq, nI_add, pk_mul, pk_sub, mup_s, mup_c, mup_j, mrw_c, if_pos, if_neg, zm_1, zm_2, zm_3, zm_4, zm_5, zm_6, zm_7, zm_8, zm_9, zf_0, zf_1, zf_2, zf_3, zf_4, zf_5, zf_6, zf_7, zf_8, zf_9, zf_10, zf_14, zf_15, zf_16, zf_18, zf_19, zf_20, zf_24, zf_30, zf_31, zf_32, zf_33, zf_99, zf_100, zf_160, zf_200, zf_287, zf_288, zf_300, zf_1000, zf_1023, zf_1024, zf_1600, zf_3840, zf_25600, zf_36000, zf_1000000, zf_1000000000, zf_2000000000, zf_11560, za_1, za_2, za_4, za_5, za_6, za_7, za_8, za_9, za_10, za_11, za_12, za_14, za_15, za_22, za_23, za_25, za_26, za_27, za_28, za_29, za_30, za_31, za_32, za_33, za_34, za_35, za_41, za_42, za_43, za_44, za_45, za_46, za_47, za_48, za_49, za_61, za_62, za_63, za_64, za_65, za_71, za_72, za_73, za_74, za_75, za_76, za_77, za_78, za_79, za_80, za_81, za_82, za_83, za_84, za_85, za_86, za_87, za_88, za_89, za_90, za_91, za_92, za_93, za_94, za_95, za_96, za_97, za_98, za_99, za_100, za_101, za_102, za_103, za_104, za_105, za_106, za_107, za_108]
            rw [cal_t (ism_ok hM v1 hj)]
            simp (disch := omega) only [zi_t, zi_f, bnd_t, zg_in, zx, nI_ltI, nI_leI, nI_eq, nI_add, pk_mul, pk_sub, mup_s, mup_c, mup_j, mrw_c, if_pos, if_neg, zm_1, zm_2, zm_3, zm_4, zm_5, zm_6, zm_7, zm_8, zm_9, zf_0, zf_1, zf_2, zf_3, zf_4, zf_5, zf_6, zf_7, zf_8, zf_9, zf_10, zf_14, zf_15, zf_16, zf_18, zf_19, zf_20, zf_24, zf_30, zf_31, zf_32, zf_33, zf_99, zf_100, zf_160, zf_200, zf_287, zf_288, zf_300, zf_1000, zf_1023, zf_1024, zf_1600, zf_3840, zf_25600, zf_36000, zf_1000000, zf_1000000000, zf_2000000000, zf_11560, za_1, za_2, za_4, za_5, za_6, za_7, za_8, za_9, za_10, za_11, za_12, za_14, za_15, za_22, za_23, za_25, za_26, za_27, za_28, za_29, za_30, za_31, za_32, za_33, za_34, za_35, za_41, za_42, za_43, za_44, za_45, za_46, za_47, za_48, za_49, za_61, za_62, za_63, za_64, za_65, za_71, za_72, za_73, za_74, za_75, za_76, za_77, za_78, za_79, za_80, za_81, za_82, za_83, za_84, za_85, za_86, za_87, za_88, za_89, za_90, za_91, za_92, za_93, za_94, za_95, za_96, za_97, za_98, za_99, za_100, za_101, za_102, za_103, za_104, za_105, za_106, za_107, za_108]
            unfold B_X8_compose_21
            simp (disch := omega) only [zi_t, zi_f, bnd_t, zg_in, zx, nI_ltI, nI_leI, nI_eq, nI_add, pk_mul, pk_sub, mup_s, mup_c, mup_j, mrw_c, if_pos, if_neg, zm_1, zm_2, zm_3, zm_4, zm_5, zm_6, zm_7, zm_8, zm_9, zf_0, zf_1, zf_2, zf_3, zf_4, zf_5, zf_6, zf_7, zf_8, zf_9, zf_10, zf_14, zf_15, zf_16, zf_18, zf_19, zf_20, zf_24, zf_30, zf_31, zf_32, zf_33, zf_99, zf_100, zf_160, zf_200, zf_287, zf_288, zf_300, zf_1000, zf_1023, zf_1024, zf_1600, zf_3840, zf_25600, zf_36000, zf_1000000, zf_1000000000, zf_2000000000, zf_11560, za_1, za_2, za_4, za_5, za_6, za_7, za_8, za_9, za_10, za_11, za_12, za_14, za_15, za_22, za_23, za_25, za_26, za_27, za_28, za_29, za_30, za_31, za_32, za_33, za_34, za_35, za_41, za_42, za_43, za_44, za_45, za_46, za_47, za_48, za_49, za_61, za_62, za_63, za_64, za_65, za_71, za_72, za_73, za_74, za_75, za_76, za_77, za_78, za_79, za_80, za_81, za_82, za_83, za_84, za_85, za_86, za_87, za_88, za_89, za_90, za_91, za_92, za_93, za_94, za_95, za_96, za_97, za_98, za_99, za_100, za_101, za_102, za_103, za_104, za_105, za_106, za_107, za_108]
            rw [cal_t (ist_n hM v1 hl24)]
            simp (disch := omega) only [zi_t, zi_f, bnd_t, zg_in, zx, nI_ltI, nI_leI, nI_eq, nI_add, pk_mul, pk_sub, mup_s, mup_c, mup_j, mrw_c, if_pos, if_neg, zm_1, zm_2, zm_3, zm_4, zm_5, zm_6, zm_7, zm_8, zm_9, zf_0, zf_1, zf_2, zf_3, zf_4, zf_5, zf_6, zf_7, zf_8, zf_9, zf_10, zf_14, zf_15, zf_16, zf_18, zf_19, zf_20, zf_24, zf_30, zf_31, zf_32, zf_33, zf_99, zf_100, zf_160, zf_200, zf_287, zf_288, zf_300, zf_1000, zf_1023, zf_1024, zf_1600, zf_3840, zf_25600, zf_36000, zf_1000000, zf_1000000000, zf_2000000000, zf_11560, za_1, za_2, za_4, za_5, za_6, za_7, za_8, za_9, za_10, za_11, za_12, za_14, za_15, za_22, za_23, za_25, za_26, za_27, za_28, za_29, za_30, za_31, za_32, za_33, za_34, za_35, za_41, za_42, za_43, za_44, za_45, za_46, za_47, za_48, za_49, za_61, za_62, za_63, za_64, za_65, za_71, za_72, za_73, za_74, za_75, za_76, za_77, za_78, za_79, za_80, za_81, za_82, za_83, za_84, za_85, za_86, za_87, za_88, za_89, za_90, za_91, za_92, za_93, za_94, za_95, za_96, za_97, za_98, za_99, za_100, za_101, za_102, za_103, za_104, za_105, za_106, za_107, za_108]
            unfold B_X8_compose_47 B_X8_compose_52
            simp (disch := omega) only [zi_t, zi_f, bnd_t, zg_in, zx, nI_ltI, nI_leI, nI_eq, nI_add, pk_mul, pk_sub, mup_s, mup_c, mup_j, mrw_c, if_pos, if_neg, zm_1, zm_2, zm_3, zm_4, zm_5, zm_6, zm_7, zm_8, zm_9, zf_0, zf_1, zf_2, zf_3, zf_4, zf_5, zf_6, zf_7, zf_8, zf_9, zf_10, zf_14, zf_15, zf_16, zf_18, zf_19, zf_20, zf_24, zf_30, zf_31, zf_32, zf_33, zf_99, zf_100, zf_160, zf_200, zf_287, zf_288, zf_300, zf_1000, zf_1023, zf_1024, zf_1600, zf_3840, zf_25600, zf_36000, zf_1000000, zf_1000000000, zf_2000000000, zf_11560, za_1, za_2, za_4, za_5, za_6, za_7, za_8, za_9, za_10, za_11, za_12, za_14, za_15, za_22, za_23, za_25, za_26, za_27, za_28, za_29, za_30, za_31, za_32, za_33, za_34, za_35, za_41, za_42, za_43, za_44, za_45, za_46, za_47, za_48, za_49, za_61, za_62, za_63, za_64, za_65, za_71, za_72, za_73, za_74, za_75, za_76, za_77, za_78, za_79, za_80, za_81, za_82, za_83, za_84, za_85, za_86, za_87, za_88, za_89, za_90, za_91, za_92, za_93, za_94, za_95, za_96, za_97, za_98, za_99, za_100, za_101, za_102, za_103, za_104, za_105, za_106, za_107, za_108]
            rw [cal_t (fine_x (by omega) (by omega))]
            simp (disch := omega) only [zi_t, zi_f, bnd_t, zg_in, zx, nI_ltI, nI_leI, nI_eq, nI_add, pk_mul, pk_sub, mup_s, mup_c, mup_j, mrw_c, if_pos, if_neg, zm_1, zm_2, zm_3, zm_4, zm_5, zm_6, zm_7, zm_8, zm_9, zf_0, zf_1, zf_2, zf_3, zf_4, zf_5, zf_6, zf_7, zf_8, zf_9, zf_10, zf_14, zf_15, zf_16, zf_18, zf_19, zf_20, zf_24, zf_30, zf_31, zf_32, zf_33, zf_99, zf_100, zf_160, zf_200, zf_287, zf_288, zf_300, zf_1000, zf_1023, zf_1024, zf_1600, zf_3840, zf_25600, zf_36000, zf_1000000, zf_1000000000, zf_2000000000, zf_11560, za_1, za_2, za_4, za_5, za_6, za_7, za_8, za_9, za_10, za_11, za_12, za_14, za_15, za_22, za_23, za_25, za_26, za_27, za_28, za_29, za_30, za_31, za_32, za_33, za_34, za_35, za_41, za_42, za_43, za_44, za_45, za_46, za_47, za_48, za_49, za_61, za_62, za_63, za_64, za_65, za_71, za_72, za_73, za_74, za_75, za_76, za_77, za_78, za_79, za_80, za_81, za_82, za_83, za_84, za_85, za_86, za_87, za_88, za_89, za_90, za_91, za_92, za_93, za_94, za_95, za_96, za_97, za_98, za_99, za_100, za_101, za_102, za_103, za_104, za_105, za_106, za_107, za_108]
      · have hnd : ∀ a b, a ∈ LA → b ∈ LB → ¬ Dear a b := fun a b ha hb hd => hdear ⟨a, b, ha, hb, hd⟩
        obtain ⟨k1, k2, k3⟩ := cp_af vA vB hnd
        have hlen := cp_len (nA := nA) (nB := nB) (LA := LA) (LB := LB) a2 b2 a3 b3
        have hfl : (LA.flatMap (fun a => mts nB LB a ++ mv1 nB a)).length ≤ 160 * LA.length := fm_len (h := mtv nB LB) (c := 160) LA (fun a _ => mtv_160 b3 b2 a)
        have hf2 := fm_len (h := mv2 nA nB) (c := 32) LB (fun a _ => mv2_32 a2 a)
        have k1' : DOK 1024 (cpM nA nB LA LB) := fun q hq => (k1.wd hn2) q ((cp_same q).mpr hq)
        refine sim_makeJ (n := nA * nB) (st := 0) (E := cpE fA fB nB nA) (E' := cmE fA fB nB (nB * nA)) hN hV rfl hn1 hn2 (by rw [List.length_append, List.length_append]; omega) k1 (by rw [List.length_append]; omega) k1' cp_same (fun s hs => ?_) k2 k3 (fun m hC => ?_) (fun m hM hl24 => ?_) (fun m hM hl24 => ?_)
        · unfold cpE cmE
          rw [Nat.mul_comm nB nA]
        · obtain ⟨_, m1, h1, h2⟩ := hcl m hC
          rcases h2 with ⟨h3, _⟩ | ⟨_, h3, h4, _⟩
          · exact absurd h3 hdear
          · exact ⟨m1, h3, h1, h4⟩
        · obtain ⟨m1, h1, h2⟩ := mw_composes hN vA vB (by omega) (by omega) (hM.2.1 i _ gA) (hM.2.1 j _ gB)
          rcases h2 with ⟨h3, _⟩ | ⟨_, h3, h4⟩
          · exact absurd h3 hdear
          · refine ⟨m1, h3, h1, fun b m1 hm1 => ?_⟩
            show F_X8_compose N m _ _ = _
            unfold F_X8_compose
            rw [cal_t (ism_ok hM v1 hi)]
            simp (disch := omega) only [zi_t, zi_f, bnd_t, zg_in, zx, nI_ltI, nI_leI, nI_eq, nI_add, pk_mul, pk_sub, mup_s, mup_c, mup_j, mrw_c, if_pos, if_neg, zm_1, zm_2, zm_3, zm_4, zm_5, zm_6, zm_7, zm_8, zm_9, zf_0, zf_1, zf_2, zf_3, zf_4, zf_5, zf_6, zf_7, zf_8, zf_9, zf_10, zf_14, zf_15, zf_16, zf_18, zf_19, zf_20, zf_24, zf_30, zf_31, zf_32, zf_33, zf_99, zf_100, zf_160, zf_200, zf_287, zf_288, zf_300, zf_1000, zf_1023, zf_1024, zf_1600, zf_3840, zf_25600, zf_36000, zf_1000000, zf_1000000000, zf_2000000000, zf_11560, za_1, za_2, za_4, za_5, za_6, za_7, za_8, za_9, za_10, za_11, za_12, za_14, za_15, za_22, za_23, za_25, za_26, za_27, za_28, za_29, za_30, za_31, za_32, za_33, za_34, za_35, za_41, za_42, za_43, za_44, za_45, za_46, za_47, za_48, za_49, za_61, za_62, za_63, za_64, za_65, za_71, za_72, za_73, za_74, za_75, za_76, za_77, za_78, za_79, za_80, za_81, za_82, za_83, za_84, za_85, za_86, za_87, za_88, za_89, za_90, za_91, za_92, za_93, za_94, za_95, za_96, za_97, za_98, za_99, za_100, za_101, za_102, za_103, za_104, za_105, za_106, za_107, za_108]
            rw [cal_t (ism_ok hM v1 hj)]
            simp (disch := omega) only [zi_t, zi_f, bnd_t, zg_in, zx, nI_ltI, nI_leI, nI_eq, nI_add, pk_mul, pk_sub, mup_s, mup_c, mup_j, mrw_c, if_pos, if_neg, zm_1, zm_2, zm_3, zm_4, zm_5, zm_6, zm_7, zm_8, zm_9, zf_0, zf_1, zf_2, zf_3, zf_4, zf_5, zf_6, zf_7, zf_8, zf_9, zf_10, zf_14, zf_15, zf_16, zf_18, zf_19, zf_20, zf_24, zf_30, zf_31, zf_32, zf_33, zf_99, zf_100, zf_160, zf_200, zf_287, zf_288, zf_300, zf_1000, zf_1023, zf_1024, zf_1600, zf_3840, zf_25600, zf_36000, zf_1000000, zf_1000000000, zf_2000000000, zf_11560, za_1, za_2, za_4, za_5, za_6, za_7, za_8, za_9, za_10, za_11, za_12, za_14, za_15, za_22, za_23, za_25, za_26, za_27, za_28, za_29, za_30, za_31, za_32, za_33, za_34, za_35, za_41, za_42, za_43, za_44, za_45, za_46, za_47, za_48, za_49, za_61, za_62, za_63, za_64, za_65, za_71, za_72, za_73, za_74, za_75, za_76, za_77, za_78, za_79, za_80, za_81, za_82, za_83, za_84, za_85, za_86, za_87, za_88, za_89, za_90, za_91, za_92, za_93, za_94, za_95, za_96, za_97, za_98, za_99, za_100, za_101, za_102, za_103, za_104, za_105, za_106, za_107, za_108]
            unfold B_X8_compose_21
            simp (disch := omega) only [zi_t, zi_f, bnd_t, zg_in, zx, nI_ltI, nI_leI, nI_eq, nI_add, pk_mul, pk_sub, mup_s, mup_c, mup_j, mrw_c, if_pos, if_neg, zm_1, zm_2, zm_3, zm_4, zm_5, zm_6, zm_7, zm_8, zm_9, zf_0, zf_1, zf_2, zf_3, zf_4, zf_5, zf_6, zf_7, zf_8, zf_9, zf_10, zf_14, zf_15, zf_16, zf_18, zf_19, zf_20, zf_24, zf_30, zf_31, zf_32, zf_33, zf_99, zf_100, zf_160, zf_200, zf_287, zf_288, zf_300, zf_1000, zf_1023, zf_1024, zf_1600, zf_3840, zf_25600, zf_36000, zf_1000000, zf_1000000000, zf_2000000000, zf_11560, za_1, za_2, za_4, za_5, za_6, za_7, za_8, za_9, za_10, za_11, za_12, za_14, za_15, za_22, za_23, za_25, za_26, za_27, za_28, za_29, za_30, za_31, za_32, za_33, za_34, za_35, za_41, za_42, za_43, za_44, za_45, za_46, za_47, za_48, za_49, za_61, za_62, za_63, za_64, za_65, za_71, za_72, za_73, za_74, za_75, za_76, za_77, za_78, za_79, za_80, za_81, za_82, za_83, za_84, za_85, za_86, za_87, za_88, za_89, za_90, za_91, za_92, za_93, za_94, za_95, za_96, za_97, za_98, za_99, za_100, za_101, za_102, za_103, za_104, za_105, za_106, za_107, za_108]
            rw [cal_t (ist_y hM hl24)]
            simp (disch := omega) only [zi_t, zi_f, bnd_t, zg_in, zx, nI_ltI, nI_leI, nI_eq, nI_add, pk_mul, pk_sub, mup_s, mup_c, mup_j, mrw_c, if_pos, if_neg, zm_1, zm_2, zm_3, zm_4, zm_5, zm_6, zm_7, zm_8, zm_9, zf_0, zf_1, zf_2, zf_3, zf_4, zf_5, zf_6, zf_7, zf_8, zf_9, zf_10, zf_14, zf_15, zf_16, zf_18, zf_19, zf_20, zf_24, zf_30, zf_31, zf_32, zf_33, zf_99, zf_100, zf_160, zf_200, zf_287, zf_288, zf_300, zf_1000, zf_1023, zf_1024, zf_1600, zf_3840, zf_25600, zf_36000, zf_1000000, zf_1000000000, zf_2000000000, zf_11560, za_1, za_2, za_4, za_5, za_6, za_7, za_8, za_9, za_10, za_11, za_12, za_14, za_15, za_22, za_23, za_25, za_26, za_27, za_28, za_29, za_30, za_31, za_32, za_33, za_34, za_35, za_41, za_42, za_43, za_44, za_45, za_46, za_47, za_48, za_49, za_61, za_62, za_63, za_64, za_65, za_71, za_72, za_73, za_74, za_75, za_76, za_77, za_78, za_79, za_80, za_81, za_82, za_83, za_84, za_85, za_86, za_87, za_88, za_89, za_90, za_91, za_92, za_93, za_94, za_95, za_96, za_97, za_98, za_99, za_100, za_101, za_102, za_103, za_104, za_105, za_106, za_107, za_108]
            rw [h4, cal_t (tW_of hm1)]
            cases b
            · rfl
            · rfl
        · show F_X8_compose N m _ _ = _
          unfold F_X8_compose
          rw [cal_t (ism_ok hM v1 hi)]
          simp (disch := omega) only [zi_t, zi_f, bnd_t, zg_in, zx, nI_ltI, nI_leI, nI_eq, nI_add, pk_mul, pk_sub, mup_s, mup_c, mup_j, mrw_c, if_pos, if_neg, zm_1, zm_2, zm_3, zm_4, zm_5, zm_6, zm_7, zm_8, zm_9, zf_0, zf_1, zf_2, zf_3, zf_4, zf_5, zf_6, zf_7, zf_8, zf_9, zf_10, zf_14, zf_15, zf_16, zf_18, zf_19, zf_20, zf_24, zf_30, zf_31, zf_32, zf_33, zf_99, zf_100, zf_160, zf_200, zf_287, zf_288, zf_300, zf_1000, zf_1023, zf_1024, zf_1600, zf_3840, zf_25600, zf_36000, zf_1000000, zf_1000000000, zf_2000000000, zf_11560, za_1, za_2, za_4, za_5, za_6, za_7, za_8, za_9, za_10, za_11, za_12, za_14, za_15, za_22, za_23, za_25, za_26, za_27, za_28, za_29, za_30, za_31, za_32, za_33, za_34, za_35, za_41, za_42, za_43, za_44, za_45, za_46, za_47, za_48, za_49, za_61, za_62, za_63, za_64, za_65, za_71, za_72, za_73, za_74, za_75, za_76, za_77, za_78, za_79, za_80, za_81, za_82, za_83, za_84, za_85, za_86, za_87, za_88, za_89, za_90, za_91, za_92, za_93, za_94, za_95, za_96, za_97, za_98, za_99, za_100, za_101, za_102, za_103, za_104, za_105, za_106, za_107, za_108]
          rw [cal_t (ism_ok hM v1 hj)]
          simp (disch := omega) only [zi_t, zi_f, bnd_t, zg_in, zx, nI_ltI, nI_leI, nI_eq, nI_add, pk_mul, pk_sub, mup_s, mup_c, mup_j, mrw_c, if_pos, if_neg, zm_1, zm_2, zm_3, zm_4, zm_5, zm_6, zm_7, zm_8, zm_9, zf_0, zf_1, zf_2, zf_3, zf_4, zf_5, zf_6, zf_7, zf_8, zf_9, zf_10, zf_14, zf_15, zf_16, zf_18, zf_19, zf_20, zf_24, zf_30, zf_31, zf_32, zf_33, zf_99, zf_100, zf_160, zf_200, zf_287, zf_288, zf_300, zf_1000, zf_1023, zf_1024, zf_1600, zf_3840, zf_25600, zf_36000, zf_1000000, zf_1000000000, zf_2000000000, zf_11560, za_1, za_2, za_4, za_5, za_6, za_7, za_8, za_9, za_10, za_11, za_12, za_14, za_15, za_22, za_23, za_25, za_26, za_27, za_28, za_29, za_30, za_31, za_32, za_33, za_34, za_35, za_41, za_42, za_43, za_44, za_45, za_46, za_47, za_48, za_49, za_61, za_62, za_63, za_64, za_65, za_71, za_72, za_73, za_74, za_75, za_76, za_77, za_78, za_79, za_80, za_81, za_82, za_83, za_84, za_85, za_86, za_87, za_88, za_89, za_90, za_91, za_92, za_93, za_94, za_95, za_96, za_97, za_98, za_99, za_100, za_101, za_102, za_103, za_104, za_105, za_106, za_107, za_108]
          unfold B_X8_compose_21
          simp (disch := omega) only [zi_t, zi_f, bnd_t, zg_in, zx, nI_ltI, nI_leI, nI_eq, nI_add, pk_mul, pk_sub, mup_s, mup_c, mup_j, mrw_c, if_pos, if_neg, zm_1, zm_2, zm_3, zm_4, zm_5, zm_6, zm_7, zm_8, zm_9, zf_0, zf_1, zf_2, zf_3, zf_4, zf_5, zf_6, zf_7, zf_8, zf_9, zf_10, zf_14, zf_15, zf_16, zf_18, zf_19, zf_20, zf_24, zf_30, zf_31, zf_32, zf_33, zf_99, zf_100, zf_160, zf_200, zf_287, zf_288, zf_300, zf_1000, zf_1023, zf_1024, zf_1600, zf_3840, zf_25600, zf_36000, zf_1000000, zf_1000000000, zf_2000000000, zf_11560, za_1, za_2, za_4, za_5, za_6, za_7, za_8, za_9, za_10, za_11, za_12, za_14, za_15, za_22, za_23, za_25, za_26, za_27, za_28, za_29, za_30, za_31, za_32, za_33, za_34, za_35, za_41, za_42, za_43, za_44, za_45, za_46, za_47, za_48, za_49, za_61, za_62, za_63, za_64, za_65, za_71, za_72, za_73, za_74, za_75, za_76, za_77, za_78, za_79, za_80, za_81, za_82, za_83, za_84, za_85, za_86, za_87, za_88, za_89, za_90, za_91, za_92, za_93, za_94, za_95, za_96, za_97, za_98, za_99, za_100, za_101, za_102, za_103, za_104, za_105, za_106, za_107, za_108]
          rw [cal_t (ist_n hM v1 hl24)]
          simp (disch := omega) only [zi_t, zi_f, bnd_t, zg_in, zx, nI_ltI, nI_leI, nI_eq, nI_add, pk_mul, pk_sub, mup_s, mup_c, mup_j, mrw_c, if_pos, if_neg, zm_1, zm_2, zm_3, zm_4, zm_5, zm_6, zm_7, zm_8, zm_9, zf_0, zf_1, zf_2, zf_3, zf_4, zf_5, zf_6, zf_7, zf_8, zf_9, zf_10, zf_14, zf_15, zf_16, zf_18, zf_19, zf_20, zf_24, zf_30, zf_31, zf_32, zf_33, zf_99, zf_100, zf_160, zf_200, zf_287, zf_288, zf_300, zf_1000, zf_1023, zf_1024, zf_1600, zf_3840, zf_25600, zf_36000, zf_1000000, zf_1000000000, zf_2000000000, zf_11560, za_1, za_2, za_4, za_5, za_6, za_7, za_8, za_9, za_10, za_11, za_12, za_14, za_15, za_22, za_23, za_25, za_26, za_27, za_28, za_29, za_30, za_31, za_32, za_33, za_34, za_35, za_41, za_42, za_43, za_44, za_45, za_46, za_47, za_48, za_49, za_61, za_62, za_63, za_64, za_65, za_71, za_72, za_73, za_74, za_75, za_76, za_77, za_78, za_79, za_80, za_81, za_82, za_83, za_84, za_85, za_86, za_87, za_88, za_89, za_90, za_91, za_92, za_93, za_94, za_95, za_96, za_97, za_98, za_99, za_100, za_101, za_102, za_103, za_104, za_105, za_106, za_107, za_108]
          unfold B_X8_compose_47 B_X8_compose_52
          simp (disch := omega) only [zi_t, zi_f, bnd_t, zg_in, zx, nI_ltI, nI_leI, nI_eq, nI_add, pk_mul, pk_sub, mup_s, mup_c, mup_j, mrw_c, if_pos, if_neg, zm_1, zm_2, zm_3, zm_4, zm_5, zm_6, zm_7, zm_8, zm_9, zf_0, zf_1, zf_2, zf_3, zf_4, zf_5, zf_6, zf_7, zf_8, zf_9, zf_10, zf_14, zf_15, zf_16, zf_18, zf_19, zf_20, zf_24, zf_30, zf_31, zf_32, zf_33, zf_99, zf_100, zf_160, zf_200, zf_287, zf_288, zf_300, zf_1000, zf_1023, zf_1024, zf_1600, zf_3840, zf_25600, zf_36000, zf_1000000, zf_1000000000, zf_2000000000, zf_11560, za_1, za_2, za_4, za_5, za_6, za_7, za_8, za_9, za_10, za_11, za_12, za_14, za_15, za_22, za_23, za_25, za_26, za_27, za_28, za_29, za_30, za_31, za_32, za_33, za_34, za_35, za_41, za_42, za_43, za_44, za_45, za_46, za_47, za_48, za_49, za_61, za_62, za_63, za_64, za_65, za_71, za_72, za_73, za_74, za_75, za_76, za_77, za_78, za_79, za_80, za_81, za_82, za_83, za_84, za_85, za_86, za_87, za_88, za_89, za_90, za_91, za_92, za_93, za_94, za_95, za_96, za_97, za_98, za_99, za_100, za_101, za_102, za_103, za_104, za_105, za_106, za_107, za_108]
          rw [cal_t (fine_x (by omega) (by omega))]
          simp (disch := omega) only [zi_t, zi_f, bnd_t, zg_in, zx, nI_ltI, nI_leI, nI_eq, nI_add, pk_mul, pk_sub, mup_s, mup_c, mup_j, mrw_c, if_pos, if_neg, zm_1, zm_2, zm_3, zm_4, zm_5, zm_6, zm_7, zm_8, zm_9, zf_0, zf_1, zf_2, zf_3, zf_4, zf_5, zf_6, zf_7, zf_8, zf_9, zf_10, zf_14, zf_15, zf_16, zf_18, zf_19, zf_20, zf_24, zf_30, zf_31, zf_32, zf_33, zf_99, zf_100, zf_160, zf_200, zf_287, zf_288, zf_300, zf_1000, zf_1023, zf_1024, zf_1600, zf_3840, zf_25600, zf_36000, zf_1000000, zf_1000000000, zf_2000000000, zf_11560, za_1, za_2, za_4, za_5, za_6, za_7, za_8, za_9, za_10, za_11, za_12, za_14, za_15, za_22, za_23, za_25, za_26, za_27, za_28, za_29, za_30, za_31, za_32, za_33, za_34, za_35, za_41, za_42, za_43, za_44, za_45, za_46, za_47, za_48, za_49, za_61, za_62, za_63, za_64, za_65, za_71, za_72, za_73, za_74, za_75, za_76, za_77, za_78, za_79, za_80, za_81, za_82, za_83, za_84, za_85, za_86, za_87, za_88, za_89, za_90, za_91, za_92, za_93, za_94, za_95, za_96, za_97, za_98, za_99, za_100, za_101, za_102, za_103, za_104, za_105, za_106, za_107, za_108]
    · refine sim_no hV 2 (fun m hC => ?_) (fun m hM => ?_)
      · show F_X7_compose N m _ _ = _
        unfold F_X7_compose
        rw [calx_t (need_ok hC v1 hi), calx_e (need_no hC v1 hy)]
      · show F_X8_compose N m _ _ = _
        unfold F_X8_compose
        rw [cal_t (ism_ok hM v1 hi)]
        simp (disch := omega) only [zi_t, zi_f, bnd_t, zg_in, zx, nI_ltI, nI_leI, nI_eq, nI_add, pk_mul, pk_sub, mup_s, mup_c, mup_j, mrw_c, if_pos, if_neg, zm_1, zm_2, zm_3, zm_4, zm_5, zm_6, zm_7, zm_8, zm_9, zf_0, zf_1, zf_2, zf_3, zf_4, zf_5, zf_6, zf_7, zf_8, zf_9, zf_10, zf_14, zf_15, zf_16, zf_18, zf_19, zf_20, zf_24, zf_30, zf_31, zf_32, zf_33, zf_99, zf_100, zf_160, zf_200, zf_287, zf_288, zf_300, zf_1000, zf_1023, zf_1024, zf_1600, zf_3840, zf_25600, zf_36000, zf_1000000, zf_1000000000, zf_2000000000, zf_11560, za_1, za_2, za_4, za_5, za_6, za_7, za_8, za_9, za_10, za_11, za_12, za_14, za_15, za_22, za_23, za_25, za_26, za_27, za_28, za_29, za_30, za_31, za_32, za_33, za_34, za_35, za_41, za_42, za_43, za_44, za_45, za_46, za_47, za_48, za_49, za_61, za_62, za_63, za_64, za_65, za_71, za_72, za_73, za_74, za_75, za_76, za_77, za_78, za_79, za_80, za_81, za_82, za_83, za_84, za_85, za_86, za_87, za_88, za_89, za_90, za_91, za_92, za_93, za_94, za_95, za_96, za_97, za_98, za_99, za_100, za_101, za_102, za_103, za_104, za_105, za_106, za_107, za_108]
        rw [cal_t (ism_no hM v1 hy)]
        simp (disch := omega) only [zi_t, zi_f, bnd_t, zg_in, zx, nI_ltI, nI_leI, nI_eq, nI_add, pk_mul, pk_sub, mup_s, mup_c, mup_j, mrw_c, if_pos, if_neg, zm_1, zm_2, zm_3, zm_4, zm_5, zm_6, zm_7, zm_8, zm_9, zf_0, zf_1, zf_2, zf_3, zf_4, zf_5, zf_6, zf_7, zf_8, zf_9, zf_10, zf_14, zf_15, zf_16, zf_18, zf_19, zf_20, zf_24, zf_30, zf_31, zf_32, zf_33, zf_99, zf_100, zf_160, zf_200, zf_287, zf_288, zf_300, zf_1000, zf_1023, zf_1024, zf_1600, zf_3840, zf_25600, zf_36000, zf_1000000, zf_1000000000, zf_2000000000, zf_11560, za_1, za_2, za_4, za_5, za_6, za_7, za_8, za_9, za_10, za_11, za_12, za_14, za_15, za_22, za_23, za_25, za_26, za_27, za_28, za_29, za_30, za_31, za_32, za_33, za_34, za_35, za_41, za_42, za_43, za_44, za_45, za_46, za_47, za_48, za_49, za_61, za_62, za_63, za_64, za_65, za_71, za_72, za_73, za_74, za_75, za_76, za_77, za_78, za_79, za_80, za_81, za_82, za_83, za_84, za_85, za_86, za_87, za_88, za_89, za_90, za_91, za_92, za_93, za_94, za_95, za_96, za_97, za_98, za_99, za_100, za_101, za_102, za_103, za_104, za_105, za_106, za_107, za_108]
        unfold B_X8_compose_20 B_X8_compose_21
        simp (disch := omega) only [zi_t, zi_f, bnd_t, zg_in, zx, nI_ltI, nI_leI, nI_eq, nI_add, pk_mul, pk_sub, mup_s, mup_c, mup_j, mrw_c, if_pos, if_neg, zm_1, zm_2, zm_3, zm_4, zm_5, zm_6, zm_7, zm_8, zm_9, zf_0, zf_1, zf_2, zf_3, zf_4, zf_5, zf_6, zf_7, zf_8, zf_9, zf_10, zf_14, zf_15, zf_16, zf_18, zf_19, zf_20, zf_24, zf_30, zf_31, zf_32, zf_33, zf_99, zf_100, zf_160, zf_200, zf_287, zf_288, zf_300, zf_1000, zf_1023, zf_1024, zf_1600, zf_3840, zf_25600, zf_36000, zf_1000000, zf_1000000000, zf_2000000000, zf_11560, za_1, za_2, za_4, za_5, za_6, za_7, za_8, za_9, za_10, za_11, za_12, za_14, za_15, za_22, za_23, za_25, za_26, za_27, za_28, za_29, za_30, za_31, za_32, za_33, za_34, za_35, za_41, za_42, za_43, za_44, za_45, za_46, za_47, za_48, za_49, za_61, za_62, za_63, za_64, za_65, za_71, za_72, za_73, za_74, za_75, za_76, za_77, za_78, za_79, za_80, za_81, za_82, za_83, za_84, za_85, za_86, za_87, za_88, za_89, za_90, za_91, za_92, za_93, za_94, za_95, za_96, za_97, za_98, za_99, za_100, za_101, za_102, za_103, za_104, za_105, za_106, za_107, za_108]
        unfold B_X8_compose_52
        rw [cal_t (fine_x (by omega) (by omega))]
        simp (disch := omega) only [zi_t, zi_f, bnd_t, zg_in, zx, nI_ltI, nI_leI, nI_eq, nI_add, pk_mul, pk_sub, mup_s, mup_c, mup_j, mrw_c, if_pos, if_neg, zm_1, zm_2, zm_3, zm_4, zm_5, zm_6, zm_7, zm_8, zm_9, zf_0, zf_1, zf_2, zf_3, zf_4, zf_5, zf_6, zf_7, zf_8, zf_9, zf_10, zf_14, zf_15, zf_16, zf_18, zf_19, zf_20, zf_24, zf_30, zf_31, zf_32, zf_33, zf_99, zf_100, zf_160, zf_200, zf_287, zf_288, zf_300, zf_1000, zf_1023, zf_1024, zf_1600, zf_3840, zf_25600, zf_36000, zf_1000000, zf_1000000000, zf_2000000000, zf_11560, za_1, za_2, za_4, za_5, za_6, za_7, za_8, za_9, za_10, za_11, za_12, za_14, za_15, za_22, za_23, za_25, za_26, za_27, za_28, za_29, za_30, za_31, za_32, za_33, za_34, za_35, za_41, za_42, za_43, za_44, za_45, za_46, za_47, za_48, za_49, za_61, za_62, za_63, za_64, za_65, za_71, za_72, za_73, za_74, za_75, za_76, za_77, za_78, za_79, za_80, za_81, za_82, za_83, za_84, za_85, za_86, za_87, za_88, za_89, za_90, za_91, za_92, za_93, za_94, za_95, za_96, za_97, za_98, za_99, za_100, za_101, za_102, za_103, za_104, za_105, za_106, za_107, za_108]
  · refine sim_no hV 2 (fun m hC => ?_) (fun m hM => ?_)
    · show F_X7_compose N m _ _ = _
      unfold F_X7_compose
      rw [calx_e (need_no hC v1 hx)]
    · show F_X8_compose N m _ _ = _
      unfold F_X8_compose
      rw [cal_t (ism_no hM v1 hx)]
      simp (disch := omega) only [zi_t, zi_f, bnd_t, zg_in, zx, nI_ltI, nI_leI, nI_eq, nI_add, pk_mul, pk_sub, mup_s, mup_c, mup_j, mrw_c, if_pos, if_neg, zm_1, zm_2, zm_3, zm_4, zm_5, zm_6, zm_7, zm_8, zm_9, zf_0, zf_1, zf_2, zf_3, zf_4, zf_5, zf_6, zf_7, zf_8, zf_9, zf_10, zf_14, zf_15, zf_16, zf_18, zf_19, zf_20, zf_24, zf_30, zf_31, zf_32, zf_33, zf_99, zf_100, zf_160, zf_200, zf_287, zf_288, zf_300, zf_1000, zf_1023, zf_1024, zf_1600, zf_3840, zf_25600, zf_36000, zf_1000000, zf_1000000000, zf_2000000000, zf_11560, za_1, za_2, za_4, za_5, za_6, za_7, za_8, za_9, za_10, za_11, za_12, za_14, za_15, za_22, za_23, za_25, za_26, za_27, za_28, za_29, za_30, za_31, za_32, za_33, za_34, za_35, za_41, za_42, za_43, za_44, za_45, za_46, za_47, za_48, za_49, za_61, za_62, za_63, za_64, za_65, za_71, za_72, za_73, za_74, za_75, za_76, za_77, za_78, za_79, za_80, za_81, za_82, za_83, za_84, za_85, za_86, za_87, za_88, za_89, za_90, za_91, za_92, za_93, za_94, za_95, za_96, za_97, za_98, za_99, za_100, za_101, za_102, za_103, za_104, za_105, za_106, za_107, za_108]
      unfold B_X8_compose_20 B_X8_compose_21
      simp (disch := omega) only [zi_t, zi_f, bnd_t, zg_in, zx, nI_ltI, nI_leI, nI_eq, nI_add, pk_mul, pk_sub, mup_s, mup_c, mup_j, mrw_c, if_pos, if_neg, zm_1, zm_2, zm_3, zm_4, zm_5, zm_6, zm_7, zm_8, zm_9, zf_0, zf_1, zf_2, zf_3, zf_4, zf_5, zf_6, zf_7, zf_8, zf_9, zf_10, zf_14, zf_15, zf_16, zf_18, zf_19, zf_20, zf_24, zf_30, zf_31, zf_32, zf_33, zf_99, zf_100, zf_160, zf_200, zf_287, zf_288, zf_300, zf_1000, zf_1023, zf_1024, zf_1600, zf_3840, zf_25600, zf_36000, zf_1000000, zf_1000000000, zf_2000000000, zf_11560, za_1, za_2, za_4, za_5, za_6, za_7, za_8, za_9, za_10, za_11, za_12, za_14, za_15, za_22, za_23, za_25, za_26, za_27, za_28, za_29, za_30, za_31, za_32, za_33, za_34, za_35, za_41, za_42, za_43, za_44, za_45, za_46, za_47, za_48, za_49, za_61, za_62, za_63, za_64, za_65, za_71, za_72, za_73, za_74, za_75, za_76, za_77, za_78, za_79, za_80, za_81, za_82, za_83, za_84, za_85, za_86, za_87, za_88, za_89, za_90, za_91, za_92, za_93, za_94, za_95, za_96, za_97, za_98, za_99, za_100, za_101, za_102, za_103, za_104, za_105, za_106, za_107, za_108]
      unfold B_X8_compose_52
      rw [cal_t (fine_x (by omega) (by omega))]
      simp (disch := omega) only [zi_t, zi_f, bnd_t, zg_in, zx, nI_ltI, nI_leI, nI_eq, nI_add, pk_mul, pk_sub, mup_s, mup_c, mup_j, mrw_c, if_pos, if_neg, zm_1, zm_2, zm_3, zm_4, zm_5, zm_6, zm_7, zm_8, zm_9, zf_0, zf_1, zf_2, zf_3, zf_4, zf_5, zf_6, zf_7, zf_8, zf_9, zf_10, zf_14, zf_15, zf_16, zf_18, zf_19, zf_20, zf_24, zf_30, zf_31, zf_32, zf_33, zf_99, zf_100, zf_160, zf_200, zf_287, zf_288, zf_300, zf_1000, zf_1023, zf_1024, zf_1600, zf_3840, zf_25600, zf_36000, zf_1000000, zf_1000000000, zf_2000000000, zf_11560, za_1, za_2, za_4, za_5, za_6, za_7, za_8, za_9, za_10, za_11, za_12, za_14, za_15, za_22, za_23, za_25, za_26, za_27, za_28, za_29, za_30, za_31, za_32, za_33, za_34, za_35, za_41, za_42, za_43, za_44, za_45, za_46, za_47, za_48, za_49, za_61, za_62, za_63, za_64, za_65, za_71, za_72, za_73, za_74, za_75, za_76, za_77, za_78, za_79, za_80, za_81, za_82, za_83, za_84, za_85, za_86, za_87, za_88, za_89, za_90, za_91, za_92, za_93, za_94, za_95, za_96, za_97, za_98, za_99, za_100, za_101, za_102, za_103, za_104, za_105, za_106, za_107, za_108]
