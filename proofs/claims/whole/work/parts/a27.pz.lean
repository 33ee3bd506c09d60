/-! rule: the model's side -/
theorem mo_ruleOne {N p d f t x : Nat} {l r : Option Nat} {u : Bool} {m : Mem} {E : Nat → Bool} {D : ArL} (hN : 40000 < N) (h : MW m E D) (hD : D.length ≤ 1000) (hp : p < 2) (hd : d < 3) (hx : x < 8) (hf : f < 8) (ht : t < 9) (hl : anOK l) (hr : anOK r) :
    ∃ m', F_X8_rulesOne N m (nI p) (nI d) (nI x) (nI f) (nI t) (an l) (an r) (bI u) = some m' ∧ MW m' E (D ++ (if x = f ∧ p ≠ 0 then rwC f t l r u (3 * p + d) else [cpy l (3 * p + d) x])) ∧ Fx 80 82 [14] m m' := by
  have h25 : F_X8_rulesOne N m (nI p) (nI d) (nI x) (nI f) (nI t) (an l) (an r) (bI u) = B_X8_rulesOne_25 N m (nI p) (nI x) (nI f) (nI t) (an r) (bI u) (nI (3 * p + d)) (bI (lpF l x)) (nI 3) := by
    unfold F_X8_rulesOne B_X8_rulesOne_20
    have en : (an l = nM) = (l = none) := an_n hl
    have es : (nI x = an l) = (l = some x) := an_eq hl (by omega)
    unfold lpF
    by_cases c1 : l = none
    · have en' : (an l = nM) = True := by rw [en]; exact eq_true c1
      rw [decide_eq_true c1, Bool.true_or]
      simp (disch := omega) only [zi_t, zi_f, bnd_t, zg_in, zx, nI_ltI, nI_leI, nI_eq, nI_add, pk_mul, pk_sub, mup_s, mup_c, mup_j, mrw_c, if_pos, if_neg, zm_1, zm_2, zm_3, zm_4, zm_5, zm_6, zm_7, zm_8, zm_9, zf_0, zf_1, zf_2, zf_3, zf_4, zf_5, zf_6, zf_7, zf_8, zf_9, zf_10, zf_14, zf_15, zf_16, zf_18, zf_19, zf_20, zf_24, zf_30, zf_31, zf_32, zf_33, zf_99, zf_100, zf_160, zf_200, zf_287, zf_288, zf_300, zf_1000, zf_1023, zf_1024, zf_1600, zf_3840, zf_25600, zf_36000, zf_1000000, zf_1000000000, zf_2000000000, zf_11560, za_1, za_2, za_4, za_5, za_6, za_7, za_8, za_9, za_10, za_11, za_12, za_14, za_15, za_22, za_23, za_25, za_26, za_27, za_28, za_29, za_30, za_31, za_32, za_33, za_34, za_35, za_41, za_42, za_43, za_44, za_45, za_46, za_47, za_48, za_49, za_61, za_62, za_63, za_64, za_65, za_71, za_72, za_73, za_74, za_75, za_76, za_77, za_78, za_79, za_80, za_81, za_82, za_83, za_84, za_85, za_86, za_87, za_88, za_89, za_90, za_91, za_92, za_93, za_94, za_95, za_96, za_97, za_98, za_99, za_100, za_101, za_102, za_103, za_104, za_105, za_106, za_107, za_108, bI_t, en']
    · have en' : (an l = nM) = False := by rw [en]; exact eq_false c1
      rw [decide_eq_false c1, Bool.false_or]
      by_cases c2 : l = some x
      · have es' : (nI x = an l) = True := by rw [es]; exact eq_true c2
        rw [decide_eq_true c2]
        simp (disch := omega) only [zi_t, zi_f, bnd_t, zg_in, zx, nI_ltI, nI_leI, nI_eq, nI_add, pk_mul, pk_sub, mup_s, mup_c, mup_j, mrw_c, if_pos, if_neg, zm_1, zm_2, zm_3, zm_4, zm_5, zm_6, zm_7, zm_8, zm_9, zf_0, zf_1, zf_2, zf_3, zf_4, zf_5, zf_6, zf_7, zf_8, zf_9, zf_10, zf_14, zf_15, zf_16, zf_18, zf_19, zf_20, zf_24, zf_30, zf_31, zf_32, zf_33, zf_99, zf_100, zf_160, zf_200, zf_287, zf_288, zf_300, zf_1000, zf_1023, zf_1024, zf_1600, zf_3840, zf_25600, zf_36000, zf_1000000, zf_1000000000, zf_2000000000, zf_11560, za_1, za_2, za_4, za_5, za_6, za_7, za_8, za_9, za_10, za_11, za_12, za_14, za_15, za_22, za_23, za_25, za_26, za_27, za_28, za_29, za_30, za_31, za_32, za_33, za_34, za_35, za_41, za_42, za_43, za_44, za_45, za_46, za_47, za_48, za_49, za_61, za_62, za_63, za_64, za_65, za_71, za_72, za_73, za_74, za_75, za_76, za_77, za_78, za_79, za_80, za_81, za_82, za_83, za_84, za_85, za_86, za_87, za_88, za_89, za_90, za_91, za_92, za_93, za_94, za_95, za_96, za_97, za_98, za_99, za_100, za_101, za_102, za_103, za_104, za_105, za_106, za_107, za_108, bI_t, en', es']
      · have es' : (nI x = an l) = False := by rw [es]; exact eq_false c2
        rw [decide_eq_false c2]
        simp (disch := omega) only [zi_t, zi_f, bnd_t, zg_in, zx, nI_ltI, nI_leI, nI_eq, nI_add, pk_mul, pk_sub, mup_s, mup_c, mup_j, mrw_c, if_pos, if_neg, zm_1, zm_2, zm_3, zm_4, zm_5, zm_6, zm_7, zm_8, zm_9, zf_0, zf_1, zf_2, zf_3, zf_4, zf_5, zf_6, zf_7, zf_8, zf_9, zf_10, zf_14, zf_15, zf_16, zf_18, zf_19, zf_20, zf_24, zf_30, zf_31, zf_32, zf_33, zf_99, zf_100, zf_160, zf_200, zf_287, zf_288, zf_300, zf_1000, zf_1023, zf_1024, zf_1600, zf_3840, zf_25600, zf_36000, zf_1000000, zf_1000000000, zf_2000000000, zf_11560, za_1, za_2, za_4, za_5, za_6, za_7, za_8, za_9, za_10, za_11, za_12, za_14, za_15, za_22, za_23, za_25, za_26, za_27, za_28, za_29, za_30, za_31, za_32, za_33, za_34, za_35, za_41, za_42, za_43, za_44, za_45, za_46, za_47, za_48, za_49, za_61, za_62, za_63, za_64, za_65, za_71, za_72, za_73, za_74, za_75, za_76, za_77, za_78, za_79, za_80, za_81, za_82, za_83, za_84, za_85, za_86, za_87, za_88, za_89, za_90, za_91, za_92, za_93, za_94, za_95, za_96, za_97, za_98, za_99, za_100, za_101, za_102, za_103, za_104, za_105, za_106, za_107, za_108, bI_t, bI_f, en', es']
  rw [h25]
  have hT := thS_le (lpF l x)
  have hy : nI 3 * bI (lpF l x) = nI (thS (lpF l x)) := by cases lpF l x <;> rfl
  have h38 : ∃ m', B_X8_rulesOne_38 N m (nI x) (nI (3 * p + d)) (nI (thS (lpF l x))) = some m' ∧ MW m' E (D ++ [cpy l (3 * p + d) x]) ∧ Fx 80 82 [14] m m' := by
    obtain ⟨m', g1, g2, g3⟩ := mw_adds (N := N) (s := 3 * p + d) (u := x) (l := x) (t := thS (lpF l x)) (c := 0) h (by omega) (by omega) (by omega) (by omega) (by omega)
    refine ⟨m', ?_, g2, g3⟩
    unfold B_X8_rulesOne_38
    rw [show (0 : Int32) = nI 0 from rfl, calv_t g1]
  unfold B_X8_rulesOne_25
  rw [hy]
  by_cases hxf : x = f
  · by_cases hp0 : p = 0
    · rw [if_neg (fun h => h.2 hp0)]
      obtain ⟨m', g1, g2⟩ := h38
      refine ⟨m', ?_, g2⟩
      rw [← g1]
      have e2 : (nI x = nI f) = True := by rw [hxf]; exact eq_self _
      simp (disch := omega) only [zi_t, zi_f, bnd_t, zg_in, zx, nI_ltI, nI_leI, nI_eq, nI_add, pk_mul, pk_sub, mup_s, mup_c, mup_j, mrw_c, if_pos, if_neg, zm_1, zm_2, zm_3, zm_4, zm_5, zm_6, zm_7, zm_8, zm_9, zf_0, zf_1, zf_2, zf_3, zf_4, zf_5, zf_6, zf_7, zf_8, zf_9, zf_10, zf_14, zf_15, zf_16, zf_18, zf_19, zf_20, zf_24, zf_30, zf_31, zf_32, zf_33, zf_99, zf_100, zf_160, zf_200, zf_287, zf_288, zf_300, zf_1000, zf_1023, zf_1024, zf_1600, zf_3840, zf_25600, zf_36000, zf_1000000, zf_1000000000, zf_2000000000, zf_11560, za_1, za_2, za_4, za_5, za_6, za_7, za_8, za_9, za_10, za_11, za_12, za_14, za_15, za_22, za_23, za_25, za_26, za_27, za_28, za_29, za_30, za_31, za_32, za_33, za_34, za_35, za_41, za_42, za_43, za_44, za_45, za_46, za_47, za_48, za_49, za_61, za_62, za_63, za_64, za_65, za_71, za_72, za_73, za_74, za_75, za_76, za_77, za_78, za_79, za_80, za_81, za_82, za_83, za_84, za_85, za_86, za_87, za_88, za_89, za_90, za_91, za_92, za_93, za_94, za_95, za_96, za_97, za_98, za_99, za_100, za_101, za_102, za_103, za_104, za_105, za_106, za_107, za_108, e2, hp0]
    · rw [if_pos ⟨hxf, hp0⟩]
      have hlf : lpF l x = lpF l f := by rw [hxf]
      rw [hlf] at hT ⊢
      have e2 : (nI x = nI f) = True := by rw [hxf]; exact eq_self _
      have last : ∀ (m1 : Mem) (D1 : ArL), MW m1 E D1 → D1.length < 1500 → Fx 80 82 [14] m m1 → ∃ m', B_X8_rulesOne_93 N m1 (nI x) (bI u) (nI (3 * p + d)) (nI (thS (lpF l f))) = some m' ∧ MW m' E (D1 ++ (if u = true then [(pkA (3 * p + d) f f (thS (lpF l f)), 0)] else [])) ∧ Fx 80 82 [14] m m' := by
        intro m1 D1 d1 d2 d3
        unfold B_X8_rulesOne_93 B_X8_rulesOne_109
        cases u with
        | false =>
          refine ⟨m1, ?_, ?_, d3⟩
          · simp (disch := omega) only [zi_t, zi_f, bnd_t, zg_in, zx, nI_ltI, nI_leI, nI_eq, nI_add, pk_mul, pk_sub, mup_s, mup_c, mup_j, mrw_c, if_pos, if_neg, zm_1, zm_2, zm_3, zm_4, zm_5, zm_6, zm_7, zm_8, zm_9, zf_0, zf_1, zf_2, zf_3, zf_4, zf_5, zf_6, zf_7, zf_8, zf_9, zf_10, zf_14, zf_15, zf_16, zf_18, zf_19, zf_20, zf_24, zf_30, zf_31, zf_32, zf_33, zf_99, zf_100, zf_160, zf_200, zf_287, zf_288, zf_300, zf_1000, zf_1023, zf_1024, zf_1600, zf_3840, zf_25600, zf_36000, zf_1000000, zf_1000000000, zf_2000000000, zf_11560, za_1, za_2, za_4, za_5, za_6, za_7, za_8, za_9, za_10, za_11, za_12, za_14, za_15, za_22, za_23, za_25, za_26, za_27, za_28, za_29, za_30, za_31, za_32, za_33, za_34, za_35, za_41, za_42, za_43, za_44, za_45, za_46, za_47, za_48, za_49, za_61, za_62, za_63, za_64, za_65, za_71, za_72, za_73, za_74, za_75, za_76, za_77, za_78, za_79, za_80, za_81, za_82, za_83, za_84, za_85, za_86, za_87, za_88, za_89, za_90, za_91, za_92, za_93, za_94, za_95, za_96, za_97, za_98, za_99, za_100, za_101, za_102, za_103, za_104, za_105, za_106, za_107, za_108, bI_f]
          · rw [if_neg (by simp), List.append_nil]; exact d1
        | true =>
          obtain ⟨m2, g1, g2, g3⟩ := mw_adds (N := N) (s := 3 * p + d) (u := f) (l := f) (t := thS (lpF l f)) (c := 0) d1 (by omega) (by omega) (by omega) (by omega) (by omega)
          refine ⟨m2, ?_, ?_, d3.tr g3⟩
          · rw [hxf]
            simp (disch := omega) only [zi_t, zi_f, bnd_t, zg_in, zx, nI_ltI, nI_leI, nI_eq, nI_add, pk_mul, pk_sub, mup_s, mup_c, mup_j, mrw_c, if_pos, if_neg, zm_1, zm_2, zm_3, zm_4, zm_5, zm_6, zm_7, zm_8, zm_9, zf_0, zf_1, zf_2, zf_3, zf_4, zf_5, zf_6, zf_7, zf_8, zf_9, zf_10, zf_14, zf_15, zf_16, zf_18, zf_19, zf_20, zf_24, zf_30, zf_31, zf_32, zf_33, zf_99, zf_100, zf_160, zf_200, zf_287, zf_288, zf_300, zf_1000, zf_1023, zf_1024, zf_1600, zf_3840, zf_25600, zf_36000, zf_1000000, zf_1000000000, zf_2000000000, zf_11560, za_1, za_2, za_4, za_5, za_6, za_7, za_8, za_9, za_10, za_11, za_12, za_14, za_15, za_22, za_23, za_25, za_26, za_27, za_28, za_29, za_30, za_31, za_32, za_33, za_34, za_35, za_41, za_42, za_43, za_44, za_45, za_46, za_47, za_48, za_49, za_61, za_62, za_63, za_64, za_65, za_71, za_72, za_73, za_74, za_75, za_76, za_77, za_78, za_79, za_80, za_81, za_82, za_83, za_84, za_85, za_86, za_87, za_88, za_89, za_90, za_91, za_92, za_93, za_94, za_95, za_96, za_97, za_98, za_99, za_100, za_101, za_102, za_103, za_104, za_105, za_106, za_107, za_108, bI_t]
            rw [calv_t g1]
          · rw [if_pos rfl]; exact g2
      unfold rwC
      by_cases hn : r = none
      · have e3 : (an r = nM) = True := by rw [an_n hr]; exact eq_true hn
        obtain ⟨m2, g1, g2, g3⟩ := mw_adds (N := N) (s := 3 * p + d) (u := f) (l := t) (t := thS (lpF l f)) (c := 0) h (by omega) (by omega) (by omega) (by omega) (by omega)
        obtain ⟨m3, k1, k2, k3⟩ := last m2 _ g2 (by rw [List.length_append, List.length_singleton]; omega) g3
        refine ⟨m3, ?_, ?_, k3⟩
        · rw [← k1]
          unfold B_X8_rulesOne_70
          rw [hxf]
          simp (disch := omega) only [zi_t, zi_f, bnd_t, zg_in, zx, nI_ltI, nI_leI, nI_eq, nI_add, pk_mul, pk_sub, mup_s, mup_c, mup_j, mrw_c, if_pos, if_neg, zm_1, zm_2, zm_3, zm_4, zm_5, zm_6, zm_7, zm_8, zm_9, zf_0, zf_1, zf_2, zf_3, zf_4, zf_5, zf_6, zf_7, zf_8, zf_9, zf_10, zf_14, zf_15, zf_16, zf_18, zf_19, zf_20, zf_24, zf_30, zf_31, zf_32, zf_33, zf_99, zf_100, zf_160, zf_200, zf_287, zf_288, zf_300, zf_1000, zf_1023, zf_1024, zf_1600, zf_3840, zf_25600, zf_36000, zf_1000000, zf_1000000000, zf_2000000000, zf_11560, za_1, za_2, za_4, za_5, za_6, za_7, za_8, za_9, za_10, za_11, za_12, za_14, za_15, za_22, za_23, za_25, za_26, za_27, za_28, za_29, za_30, za_31, za_32, za_33, za_34, za_35, za_41, za_42, za_43, za_44, za_45, za_46, za_47, za_48, za_49, za_61, za_62, za_63, za_64, za_65, za_71, za_72, za_73, za_74, za_75, za_76, za_77, za_78, za_79, za_80, za_81, za_82, za_83, za_84, za_85, za_86, za_87, za_88, za_89, za_90, za_91, za_92, za_93, za_94, za_95, za_96, za_97, za_98, za_99, za_100, za_101, za_102, za_103, za_104, za_105, za_106, za_107, za_108, e3, Nat.add_zero]
          rw [calv_t g1]
        · rw [if_pos hn, ← List.append_assoc]; exact k2
      · have e3 : (an r = nM) = False := by rw [an_n hr]; exact eq_false hn
        obtain ⟨m2, g1, g2, g3⟩ := mw_adds (N := N) (s := 3 * p + d) (u := f) (l := t) (t := thS (lpF l f) + 1) (c := 0) h (by omega) (by omega) (by omega) (by omega) (by omega)
        obtain ⟨m4, p1, p2, p3⟩ := mw_adds (N := N) (s := 3 * p + d) (u := f) (l := f) (t := thS (lpF l f) + 2) (c := 0) g2 (by rw [List.length_append, List.length_singleton]; omega) (by omega) (by omega) (by omega) (by omega)
        obtain ⟨m3, k1, k2, k3⟩ := last m4 _ p2 (by rw [List.length_append, List.length_append, List.length_singleton, List.length_singleton]; omega) (g3.tr p3)
        refine ⟨m3, ?_, ?_, k3⟩
        · rw [← k1]
          unfold B_X8_rulesOne_70
          rw [hxf]
          simp (disch := omega) only [zi_t, zi_f, bnd_t, zg_in, zx, nI_ltI, nI_leI, nI_eq, nI_add, pk_mul, pk_sub, mup_s, mup_c, mup_j, mrw_c, if_pos, if_neg, zm_1, zm_2, zm_3, zm_4, zm_5, zm_6, zm_7, zm_8, zm_9, zf_0, zf_1, zf_2, zf_3, zf_4, zf_5, zf_6, zf_7, zf_8, zf_9, zf_10, zf_14, zf_15, zf_16, zf_18, zf_19, zf_20, zf_24, zf_30, zf_31, zf_32, zf_33, zf_99, zf_100, zf_160, zf_200, zf_287, zf_288, zf_300, zf_1000, zf_1023, zf_1024, zf_1600, zf_3840, zf_25600, zf_36000, zf_1000000, zf_1000000000, zf_2000000000, zf_11560, za_1, za_2, za_4, za_5, za_6, za_7, za_8, za_9, za_10, za_11, za_12, za_14, za_15, za_22, za_23, za_25, za_26, za_27, za_28, za_29, za_30, za_31, za_32, za_33, za_34, za_35, za_41, za_42, za_43, za_44, za_45, za_46, za_47, za_48, za_49, za_61, za_62, za_63, za_64, za_65, za_71, za_72, za_73, za_74, za_75, za_76, za_77, za_78, za_79, za_80, za_81, za_82, za_83, za_84, za_85, za_86, za_87, za_88, za_89, za_90, za_91, za_92, za_93, za_94, za_95, za_96, za_97, za_98, za_99, za_100, za_101, za_102, za_103, za_104, za_105, za_106, za_107, za_108, e3]
          rw [calv_t g1, calv_t p1]
        · rw [if_neg hn]
          rw [List.append_assoc, List.append_assoc] at k2
          exact k2
  · rw [if_neg (fun h => hxf h.1)]
    obtain ⟨m', g1, g2⟩ := h38
    refine ⟨m', ?_, g2⟩
    rw [← g1]
    have e2 : (nI x = nI f) = False := by rw [nI_eq (by omega) (by omega)]; exact eq_false hxf
    simp (disch := omega) only [zi_t, zi_f, bnd_t, zg_in, zx, nI_ltI, nI_leI, nI_eq, nI_add, pk_mul, pk_sub, mup_s, mup_c, mup_j, mrw_c, if_pos, if_neg, zm_1, zm_2, zm_3, zm_4, zm_5, zm_6, zm_7, zm_8, zm_9, zf_0, zf_1, zf_2, zf_3, zf_4, zf_5, zf_6, zf_7, zf_8, zf_9, zf_10, zf_14, zf_15, zf_16, zf_18, zf_19, zf_20, zf_24, zf_30, zf_31, zf_32, zf_33, zf_99, zf_100, zf_160, zf_200, zf_287, zf_288, zf_300, zf_1000, zf_1023, zf_1024, zf_1600, zf_3840, zf_25600, zf_36000, zf_1000000, zf_1000000000, zf_2000000000, zf_11560, za_1, za_2, za_4, za_5, za_6, za_7, za_8, za_9, za_10, za_11, za_12, za_14, za_15, za_22, za_23, za_25, za_26, za_27, za_28, za_29, za_30, za_31, za_32, za_33, za_34, za_35, za_41, za_42, za_43, za_44, za_45, za_46, za_47, za_48, za_49, za_61, za_62, za_63, za_64, za_65, za_71, za_72, za_73, za_74, za_75, za_76, za_77, za_78, za_79, za_80, za_81, za_82, za_83, za_84, za_85, za_86, za_87, za_88, za_89, za_90, za_91, za_92, za_93, za_94, za_95, za_96, za_97, za_98, za_99, za_100, za_101, za_102, za_103, za_104, za_105, za_106, za_107, za_108, e2]
theorem rem3 {s : Nat} (h : s < 2 ^ 31) : q_rem (nI s) (nI 3) = nI (s % 3) := pk_rem h (by omega) (by omega)
theorem div3 {s : Nat} (h : s < 2 ^ 31) : nI s / nI 3 = nI (s / 3) := pk_div h (by omega) (by omega)
def rmE (k x : Nat) : Bool := decide (x < k ∧ x % 3 ≠ 1)
theorem rmE_s {k : Nat} : (fun x => if x = k then decide (k % 3 ≠ 1) else rmE k x) = rmE (k + 1) := by
  funext x
  unfold rmE
  by_cases h : x = k
  · rw [if_pos h, h, decide_eq_decide]; omega
  · rw [if_neg h, decide_eq_decide]; omega
theorem rmE_0 : rmE 0 = fun _ => false := by
  funext x
  unfold rmE
  exact decide_eq_false (by omega)
theorem mo_rule_in {N f t s : Nat} {l r : Option Nat} {u : Bool} {m0 m : Mem} {E : Nat → Bool} {D : ArL} (F : Nat) (hN : 40000 < N) (h : MW m E D) (hF : Fx 80 83 [14] m0 m) (hD : D.length ≤ 192) (hs : s < 6) (hf : f < 8) (ht : t < 9) (hl : anOK l) (hr : anOK r) :
    ∃ m', Fx 80 83 [14] m0 m' ∧ MW m' E (D ++ fmN (ckM f t l r u s) 8) ∧ L_X8_rules_37 N (L_X8_rules_7 N F) N m (nI f) (nI t) (an l) (an r) (bI u) (nI s) (nI 0) = L_X8_rules_7 N F m' (nI f) (nI t) (an l) (an r) (bI u) (nI (s + 1)) := by
  refine loopF (fun G (m : Mem) x => L_X8_rules_37 N (L_X8_rules_7 N F) G m (nI f) (nI t) (an l) (an r) (bI u) (nI s) (nI x)) 8 (fun x m' => Fx 80 83 [14] m0 m' ∧ MW m' E (D ++ fmN (ckM f t l r u s) x)) (fun o => ∃ m', Fx 80 83 [14] m0 m' ∧ MW m' E (D ++ fmN (ckM f t l r u s) 8) ∧ o = L_X8_rules_7 N F m' (nI f) (nI t) (an l) (an r) (bI u) (nI (s + 1))) ?_ ?_ N 0 m (Nat.zero_le _) ⟨hF, by show MW m E (D ++ []); rw [List.append_nil]; exact h⟩ (by omega)
  · rintro G x m1 hx ⟨h1, h2⟩
    have hlen := fmN_len (c := 4) (ckM_len f t l r u s) x
    refine Or.inl ?_
    show ∃ s', (Fx 80 83 [14] m0 s' ∧ MW s' E (D ++ fmN (ckM f t l r u s) (x + 1))) ∧ S_X8_rules_37 N (L_X8_rules_7 N F) (L_X8_rules_37 N (L_X8_rules_7 N F) G) m1 (nI f) (nI t) (an l) (an r) (bI u) (nI s) (nI x) = L_X8_rules_37 N (L_X8_rules_7 N F) G s' (nI f) (nI t) (an l) (an r) (bI u) (nI s) (nI (x + 1))
    rw [fmN_s, ← List.append_assoc]
    obtain ⟨m2, g1, g2, g3⟩ := mo_ruleOne (N := N) (p := s / 3) (d := s % 3) (f := f) (t := t) (x := x) (l := l) (r := r) (u := u) hN h2 (by rw [List.length_append]; omega) (by omega) (by omega) hx hf ht hl hr
    rw [show 3 * (s / 3) + s % 3 = s by omega] at g2
    have h79 : B_X8_rules_79 N (L_X8_rules_7 N F) (L_X8_rules_37 N (L_X8_rules_7 N F) G) m1 (nI f) (nI t) (an l) (an r) (bI u) (nI s) (nI x) = L_X8_rules_37 N (L_X8_rules_7 N F) G m2 (nI f) (nI t) (an l) (an r) (bI u) (nI s) (nI (x + 1)) := by
      unfold B_X8_rules_79 B_X8_rules_100
      rw [show (3 : Int32) = nI 3 from rfl, rem3 (by omega), div3 (by omega), calv_t g1]
      simp (disch := omega) only [zi_t, zi_f, bnd_t, zg_in, zx, nI_ltI, nI_leI, nI_eq, nI_add, pk_mul, pk_sub, mup_s, mup_c, mup_j, mrw_c, if_pos, if_neg, zm_1, zm_2, zm_3, zm_4, zm_5, zm_6, zm_7, zm_8, zm_9, zf_0, zf_1, zf_2, zf_3, zf_4, zf_5, zf_6, zf_7, zf_8, zf_9, zf_10, zf_14, zf_15, zf_16, zf_18, zf_19, zf_20, zf_24, zf_30, zf_31, zf_32, zf_33, zf_99, zf_100, zf_160, zf_200, zf_287, zf_288, zf_300, zf_1000, zf_1023, zf_1024, zf_1600, zf_3840, zf_25600, zf_36000, zf_1000000, zf_1000000000, zf_2000000000, zf_11560, za_1, za_2, za_4, za_5, za_6, za_7, za_8, za_9, za_10, za_11, za_12, za_14, za_15, za_22, za_23, za_25, za_26, za_27, za_28, za_29, za_30, za_31, za_32, za_33, za_34, za_35, za_41, za_42, za_43, za_44, za_45, za_46, za_47, za_48, za_49, za_61, za_62, za_63, za_64, za_65, za_71, za_72, za_73, za_74, za_75, za_76, za_77, za_78, za_79, za_80, za_81, za_82, za_83, za_84, za_85, za_86, za_87, za_88, za_89, za_90, za_91, za_92, za_93, za_94, za_95, za_96, za_97, za_98, za_99, za_100, za_101, za_102, za_103, za_104, za_105, za_106, za_107, za_108]
    have hno : kn r x (s % 3) = false → ∃ s', (Fx 80 83 [14] m0 s' ∧ MW s' E (D ++ fmN (ckM f t l r u s) x ++ ckM f t l r u s x)) ∧ s' = m1 := by
      intro hk
      refine ⟨m1, ⟨h1, ?_⟩, rfl⟩
      unfold ckM
      rw [hk, if_neg (by simp), List.append_nil]; exact h2
    have hyes : kn r x (s % 3) = true → ∃ s', (Fx 80 83 [14] m0 s' ∧ MW s' E (D ++ fmN (ckM f t l r u s) x ++ ckM f t l r u s x)) ∧ s' = m2 := by
      intro hk
      refine ⟨m2, ⟨h1.tr (g3.wd (by omega) (by omega) (by simp)), ?_⟩, rfl⟩
      unfold ckM
      rw [hk, if_pos rfl]; exact g2
    have hs3 : s % 3 = 0 ∨ s % 3 = 1 ∨ s % 3 = 2 := by omega
    have es : (nI x = an r) = (r = some x) := an_eq hr (by omega)
    have hrem : q_rem (nI s) (nI 3) = nI (s % 3) := rem3 (by omega)
    unfold S_X8_rules_37
    rw [show (3 : Int32) = nI 3 from rfl, hrem]
    rcases hs3 with e | e | e
    · obtain ⟨s', p1, rfl⟩ := hyes (by rw [e]; rfl)
      refine ⟨s', p1, ?_⟩
      simp (disch := omega) only [zi_t, zi_f, bnd_t, zg_in, zx, nI_ltI, nI_leI, nI_eq, nI_add, pk_mul, pk_sub, mup_s, mup_c, mup_j, mrw_c, if_pos, if_neg, zm_1, zm_2, zm_3, zm_4, zm_5, zm_6, zm_7, zm_8, zm_9, zf_0, zf_1, zf_2, zf_3, zf_4, zf_5, zf_6, zf_7, zf_8, zf_9, zf_10, zf_14, zf_15, zf_16, zf_18, zf_19, zf_20, zf_24, zf_30, zf_31, zf_32, zf_33, zf_99, zf_100, zf_160, zf_200, zf_287, zf_288, zf_300, zf_1000, zf_1023, zf_1024, zf_1600, zf_3840, zf_25600, zf_36000, zf_1000000, zf_1000000000, zf_2000000000, zf_11560, za_1, za_2, za_4, za_5, za_6, za_7, za_8, za_9, za_10, za_11, za_12, za_14, za_15, za_22, za_23, za_25, za_26, za_27, za_28, za_29, za_30, za_31, za_32, za_33, za_34, za_35, za_41, za_42, za_43, za_44, za_45, za_46, za_47, za_48, za_49, za_61, za_62, za_63, za_64, za_65, za_71, za_72, za_73, za_74, za_75, za_76, za_77, za_78, za_79, za_80, za_81, za_82, za_83, za_84, za_85, za_86, za_87, za_88, za_89, za_90, za_91, za_92, za_93, za_94, za_95, za_96, za_97, za_98, za_99, za_100, za_101, za_102, za_103, za_104, za_105, za_106, za_107, za_108, e]
      exact h79
    · by_cases c : r = some x
      · have es' : (nI x = an r) = True := by rw [es]; exact eq_true c
        obtain ⟨s', p1, rfl⟩ := hyes (by rw [e]; unfold kn; rw [if_pos rfl, decide_eq_true c])
        refine ⟨s', p1, ?_⟩
        unfold B_X8_rules_63 B_X8_rules_76
        rw [show (3 : Int32) = nI 3 from rfl, hrem]
        simp (disch := omega) only [zi_t, zi_f, bnd_t, zg_in, zx, nI_ltI, nI_leI, nI_eq, nI_add, pk_mul, pk_sub, mup_s, mup_c, mup_j, mrw_c, if_pos, if_neg, zm_1, zm_2, zm_3, zm_4, zm_5, zm_6, zm_7, zm_8, zm_9, zf_0, zf_1, zf_2, zf_3, zf_4, zf_5, zf_6, zf_7, zf_8, zf_9, zf_10, zf_14, zf_15, zf_16, zf_18, zf_19, zf_20, zf_24, zf_30, zf_31, zf_32, zf_33, zf_99, zf_100, zf_160, zf_200, zf_287, zf_288, zf_300, zf_1000, zf_1023, zf_1024, zf_1600, zf_3840, zf_25600, zf_36000, zf_1000000, zf_1000000000, zf_2000000000, zf_11560, za_1, za_2, za_4, za_5, za_6, za_7, za_8, za_9, za_10, za_11, za_12, za_14, za_15, za_22, za_23, za_25, za_26, za_27, za_28, za_29, za_30, za_31, za_32, za_33, za_34, za_35, za_41, za_42, za_43, za_44, za_45, za_46, za_47, za_48, za_49, za_61, za_62, za_63, za_64, za_65, za_71, za_72, za_73, za_74, za_75, za_76, za_77, za_78, za_79, za_80, za_81, za_82, za_83, za_84, za_85, za_86, za_87, za_88, za_89, za_90, za_91, za_92, za_93, za_94, za_95, za_96, za_97, za_98, za_99, za_100, za_101, za_102, za_103, za_104, za_105, za_106, za_107, za_108, e, es']
        exact h79
      · have es' : (nI x = an r) = False := by rw [es]; exact eq_false c
        obtain ⟨s', p1, rfl⟩ := hno (by rw [e]; unfold kn; rw [if_pos rfl, decide_eq_false c])
        refine ⟨s', p1, ?_⟩
        unfold B_X8_rules_63 B_X8_rules_76 B_X8_rules_100
        rw [show (3 : Int32) = nI 3 from rfl, hrem]
        simp (disch := omega) only [zi_t, zi_f, bnd_t, zg_in, zx, nI_ltI, nI_leI, nI_eq, nI_add, pk_mul, pk_sub, mup_s, mup_c, mup_j, mrw_c, if_pos, if_neg, zm_1, zm_2, zm_3, zm_4, zm_5, zm_6, zm_7, zm_8, zm_9, zf_0, zf_1, zf_2, zf_3, zf_4, zf_5, zf_6, zf_7, zf_8, zf_9, zf_10, zf_14, zf_15, zf_16, zf_18, zf_19, zf_20, zf_24, zf_30, zf_31, zf_32, zf_33, zf_99, zf_100, zf_160, zf_200, zf_287, zf_288, zf_300, zf_1000, zf_1023, zf_1024, zf_1600, zf_3840, zf_25600, zf_36000, zf_1000000, zf_1000000000, zf_2000000000, zf_11560, za_1, za_2, za_4, za_5, za_6, za_7, za_8, za_9, za_10, za_11, za_12, za_14, za_15, za_22, za_23, za_25, za_26, za_27, za_28, za_29, za_30, za_31, za_32, za_33, za_34, za_35, za_41, za_42, za_43, za_44, za_45, za_46, za_47, za_48, za_49, za_61, za_62, za_63, za_64, za_65, za_71, za_72, za_73, za_74, za_75, za_76, za_77, za_78, za_79, za_80, za_81, za_82, za_83, za_84, za_85, za_86, za_87, za_88, za_89, za_90, za_91, za_92, za_93, za_94, za_95, za_96, za_97, za_98, za_99, za_100, za_101, za_102, za_103, za_104, za_105, za_106, za_107, za_108, e, es']
    · by_cases c : r = some x
      · have es' : (nI x = an r) = True := by rw [es]; exact eq_true c
        obtain ⟨s', p1, rfl⟩ := hno (by rw [e]; unfold kn; rw [if_neg (by omega), if_neg (by omega), decide_eq_true c]; rfl)
        refine ⟨s', p1, ?_⟩
        unfold B_X8_rules_63 B_X8_rules_76 B_X8_rules_100
        rw [show (3 : Int32) = nI 3 from rfl, hrem]
        simp (disch := omega) only [zi_t, zi_f, bnd_t, zg_in, zx, nI_ltI, nI_leI, nI_eq, nI_add, pk_mul, pk_sub, mup_s, mup_c, mup_j, mrw_c, if_pos, if_neg, zm_1, zm_2, zm_3, zm_4, zm_5, zm_6, zm_7, zm_8, zm_9, zf_0, zf_1, zf_2, zf_3, zf_4, zf_5, zf_6, zf_7, zf_8, zf_9, zf_10, zf_14, zf_15, zf_16, zf_18, zf_19, zf_20, zf_24, zf_30, zf_31, zf_32, zf_33, zf_99, zf_100, zf_160, zf_200, zf_287, zf_288, zf_300, zf_1000, zf_1023, zf_1024, zf_1600, zf_3840, zf_25600, zf_36000, zf_1000000, zf_1000000000, zf_2000000000, zf_11560, za_1, za_2, za_4, za_5, za_6, za_7, za_8, za_9, za_10, za_11, za_12, za_14, za_15, za_22, za_23, za_25, za_26, za_27, za_28, za_29, za_30, za_31, za_32, za_33, za_34, za_35, za_41, za_42, za_43, za_44, za_45, za_46, za_47, za_48, za_49, za_61, za_62, za_63, za_64, za_65, za_71, za_72, za_73, za_74, za_75, za_76, za_77, za_78, za_79, za_80, za_81, za_82, za_83, za_84, za_85, za_86, za_87, za_88, za_89, za_90, za_91, za_92, za_93, za_94, za_95, za_96, za_97, za_98, za_99, za_100, za_101, za_102, za_103, za_104, za_105, za_106, za_107, za_108, e, es']
      · have es' : (nI x = an r) = False := by rw [es]; exact eq_false c
        obtain ⟨s', p1, rfl⟩ := hyes (by rw [e]; unfold kn; rw [if_neg (by omega), if_neg (by omega), decide_eq_false c]; rfl)
        refine ⟨s', p1, ?_⟩
        unfold B_X8_rules_63 B_X8_rules_76
        rw [show (3 : Int32) = nI 3 from rfl, hrem]
        simp (disch := omega) only [zi_t, zi_f, bnd_t, zg_in, zx, nI_ltI, nI_leI, nI_eq, nI_add, pk_mul, pk_sub, mup_s, mup_c, mup_j, mrw_c, if_pos, if_neg, zm_1, zm_2, zm_3, zm_4, zm_5, zm_6, zm_7, zm_8, zm_9, zf_0, zf_1, zf_2, zf_3, zf_4, zf_5, zf_6, zf_7, zf_8, zf_9, zf_10, zf_14, zf_15, zf_16, zf_18, zf_19, zf_20, zf_24, zf_30, zf_31, zf_32, zf_33, zf_99, zf_100, zf_160, zf_200, zf_287, zf_288, zf_300, zf_1000, zf_1023, zf_1024, zf_1600, zf_3840, zf_25600, zf_36000, zf_1000000, zf_1000000000, zf_2000000000, zf_11560, za_1, za_2, za_4, za_5, za_6, za_7, za_8, za_9, za_10, za_11, za_12, za_14, za_15, za_22, za_23, za_25, za_26, za_27, za_28, za_29, za_30, za_31, za_32, za_33, za_34, za_35, za_41, za_42, za_43, za_44, za_45, za_46, za_47, za_48, za_49, za_61, za_62, za_63, za_64, za_65, za_71, za_72, za_73, za_74, za_75, za_76, za_77, za_78, za_79, za_80, za_81, za_82, za_83, za_84, za_85, za_86, za_87, za_88, za_89, za_90, za_91, za_92, za_93, za_94, za_95, za_96, za_97, za_98, za_99, za_100, za_101, za_102, za_103, za_104, za_105, za_106, za_107, za_108, e, es']
        exact h79
  · rintro G m1 ⟨h1, h2⟩
    refine ⟨m1, h1, h2, ?_⟩
    show S_X8_rules_37 N (L_X8_rules_7 N F) (L_X8_rules_37 N (L_X8_rules_7 N F) G) m1 (nI f) (nI t) (an l) (an r) (bI u) (nI s) (nI 8) = _
    unfold S_X8_rules_37
    simp (disch := omega) only [zi_t, zi_f, bnd_t, zg_in, zx, nI_ltI, nI_leI, nI_eq, nI_add, pk_mul, pk_sub, mup_s, mup_c, mup_j, mrw_c, if_pos, if_neg, zm_1, zm_2, zm_3, zm_4, zm_5, zm_6, zm_7, zm_8, zm_9, zf_0, zf_1, zf_2, zf_3, zf_4, zf_5, zf_6, zf_7, zf_8, zf_9, zf_10, zf_14, zf_15, zf_16, zf_18, zf_19, zf_20, zf_24, zf_30, zf_31, zf_32, zf_33, zf_99, zf_100, zf_160, zf_200, zf_287, zf_288, zf_300, zf_1000, zf_1023, zf_1024, zf_1600, zf_3840, zf_25600, zf_36000, zf_1000000, zf_1000000000, zf_2000000000, zf_11560, za_1, za_2, za_4, za_5, za_6, za_7, za_8, za_9, za_10, za_11, za_12, za_14, za_15, za_22, za_23, za_25, za_26, za_27, za_28, za_29, za_30, za_31, za_32, za_33, za_34, za_35, za_41, za_42, za_43, za_44, za_45, za_46, za_47, za_48, za_49, za_61, za_62, za_63, za_64, za_65, za_71, za_72, za_73, za_74, za_75, za_76, za_77, za_78, za_79, za_80, za_81, za_82, za_83, za_84, za_85, za_86, za_87, za_88, za_89, za_90, za_91, za_92, za_93, za_94, za_95, za_96, za_97, za_98, za_99, za_100, za_101, za_102, za_103, za_104, za_105, za_106, za_107, za_108]
theorem mo_rules {N f t : Nat} {l r : Option Nat} {u : Bool} {m : Mem} (hN : 40000 < N) (hf : f < 8) (ht : t < 9) (hl : anOK l) (hr : anOK r) :
    ∃ mw, MW mw (rmE 6) (ruM f t l r u) ∧ Fx 80 83 [14] m mw ∧ F_X8_rules N m (nI f) (nI t) (an l) (an r) (bI u) = tW N mw (nI (thS (decide (l = none)))) := by
  obtain ⟨m2, c1, c2, c3⟩ := mw_begins (N := N) (m := m) (by omega)
  unfold F_X8_rules
  rw [calv_t c1]
  refine loopF (fun F (m : Mem) s => L_X8_rules_7 N F m (nI f) (nI t) (an l) (an r) (bI u) (nI s)) 6 (fun s m' => MW m' (rmE s) (fmN (fun s => fmN (ckM f t l r u s) 8) s) ∧ Fx 80 83 [14] m m') (fun o => ∃ mw, MW mw (rmE 6) (ruM f t l r u) ∧ Fx 80 83 [14] m mw ∧ o = tW N mw (nI (thS (decide (l = none))))) ?_ ?_ N 0 m2 (Nat.zero_le _) ⟨by rw [rmE_0]; exact c2, c3.wd (by omega) (by omega) (by simp)⟩ (by omega)
  · rintro F s m1 hs ⟨h1, h2⟩
    have hlen := fmN_len (h := fun s => fmN (ckM f t l r u s) 8) (c := 32) (fun k => fmN_len (c := 4) (ckM_len f t l r u k) 8) s
    have h3 := mw_end h1 s (decide (s % 3 ≠ 1))
    rw [rmE_s] at h3
    obtain ⟨m', g1, g2, g3⟩ := mo_rule_in (N := N) (u := u) F hN h3 (h2.up (by omega) (by omega) (by omega)) (by omega) hs hf ht hl hr
    refine Or.inl ⟨m', ⟨by rw [fmN_s]; exact g2, g1⟩, ?_⟩
    rw [← g3]
    show S_X8_rules_7 N (L_X8_rules_7 N F) m1 (nI f) (nI t) (an l) (an r) (bI u) (nI s) = _
    unfold S_X8_rules_7 B_X8_rules_33
    rw [show (3 : Int32) = nI 3 from rfl, rem3 (by omega)]
    by_cases c : s % 3 = 1
    · rw [decide_eq_false (by rw [c]; simp)]
      simp (disch := omega) only [zi_t, zi_f, bnd_t, zg_in, zx, nI_ltI, nI_leI, nI_eq, nI_add, pk_mul, pk_sub, mup_s, mup_c, mup_j, mrw_c, if_pos, if_neg, zm_1, zm_2, zm_3, zm_4, zm_5, zm_6, zm_7, zm_8, zm_9, zf_0, zf_1, zf_2, zf_3, zf_4, zf_5, zf_6, zf_7, zf_8, zf_9, zf_10, zf_14, zf_15, zf_16, zf_18, zf_19, zf_20, zf_24, zf_30, zf_31, zf_32, zf_33, zf_99, zf_100, zf_160, zf_200, zf_287, zf_288, zf_300, zf_1000, zf_1023, zf_1024, zf_1600, zf_3840, zf_25600, zf_36000, zf_1000000, zf_1000000000, zf_2000000000, zf_11560, za_1, za_2, za_4, za_5, za_6, za_7, za_8, za_9, za_10, za_11, za_12, za_14, za_15, za_22, za_23, za_25, za_26, za_27, za_28, za_29, za_30, za_31, za_32, za_33, za_34, za_35, za_41, za_42, za_43, za_44, za_45, za_46, za_47, za_48, za_49, za_61, za_62, za_63, za_64, za_65, za_71, za_72, za_73, za_74, za_75, za_76, za_77, za_78, za_79, za_80, za_81, za_82, za_83, za_84, za_85, za_86, za_87, za_88, za_89, za_90, za_91, za_92, za_93, za_94, za_95, za_96, za_97, za_98, za_99, za_100, za_101, za_102, za_103, za_104, za_105, za_106, za_107, za_108, c, bI_f]
      rfl
    · rw [decide_eq_true c]
      simp (disch := omega) only [zi_t, zi_f, bnd_t, zg_in, zx, nI_ltI, nI_leI, nI_eq, nI_add, pk_mul, pk_sub, mup_s, mup_c, mup_j, mrw_c, if_pos, if_neg, zm_1, zm_2, zm_3, zm_4, zm_5, zm_6, zm_7, zm_8, zm_9, zf_0, zf_1, zf_2, zf_3, zf_4, zf_5, zf_6, zf_7, zf_8, zf_9, zf_10, zf_14, zf_15, zf_16, zf_18, zf_19, zf_20, zf_24, zf_30, zf_31, zf_32, zf_33, zf_99, zf_100, zf_160, zf_200, zf_287, zf_288, zf_300, zf_1000, zf_1023, zf_1024, zf_1600, zf_3840, zf_25600, zf_36000, zf_1000000, zf_1000000000, zf_2000000000, zf_11560, za_1, za_2, za_4, za_5, za_6, za_7, za_8, za_9, za_10, za_11, za_12, za_14, za_15, za_22, za_23, za_25, za_26, za_27, za_28, za_29, za_30, za_31, za_32, za_33, za_34, za_35, za_41, za_42, za_43, za_44, za_45, za_46, za_47, za_48, za_49, za_61, za_62, za_63, za_64, za_65, za_71, za_72, za_73, za_74, za_75, za_76, za_77, za_78, za_79, za_80, za_81, za_82, za_83, za_84, za_85, za_86, za_87, za_88, za_89, za_90, za_91, za_92, za_93, za_94, za_95, za_96, za_97, za_98, za_99, za_100, za_101, za_102, za_103, za_104, za_105, za_106, za_107, za_108, bI_t]
      rfl
  · rintro F m1 ⟨h1, h2⟩
    refine ⟨m1, h1, h2, ?_⟩
    show S_X8_rules_7 N (L_X8_rules_7 N F) m1 (nI f) (nI t) (an l) (an r) (bI u) (nI 6) = _
    unfold S_X8_rules_7 B_X8_rules_123 tW
    by_cases c1 : l = none
    · have en' : (an l = nM) = True := by rw [an_n hl]; exact eq_true c1
      rw [decide_eq_true c1]
      simp (disch := omega) only [zi_t, zi_f, bnd_t, zg_in, zx, nI_ltI, nI_leI, nI_eq, nI_add, pk_mul, pk_sub, mup_s, mup_c, mup_j, mrw_c, if_pos, if_neg, zm_1, zm_2, zm_3, zm_4, zm_5, zm_6, zm_7, zm_8, zm_9, zf_0, zf_1, zf_2, zf_3, zf_4, zf_5, zf_6, zf_7, zf_8, zf_9, zf_10, zf_14, zf_15, zf_16, zf_18, zf_19, zf_20, zf_24, zf_30, zf_31, zf_32, zf_33, zf_99, zf_100, zf_160, zf_200, zf_287, zf_288, zf_300, zf_1000, zf_1023, zf_1024, zf_1600, zf_3840, zf_25600, zf_36000, zf_1000000, zf_1000000000, zf_2000000000, zf_11560, za_1, za_2, za_4, za_5, za_6, za_7, za_8, za_9, za_10, za_11, za_12, za_14, za_15, za_22, za_23, za_25, za_26, za_27, za_28, za_29, za_30, za_31, za_32, za_33, za_34, za_35, za_41, za_42, za_43, za_44, za_45, za_46, za_47, za_48, za_49, za_61, za_62, za_63, za_64, za_65, za_71, za_72, za_73, za_74, za_75, za_76, za_77, za_78, za_79, za_80, za_81, za_82, za_83, za_84, za_85, za_86, za_87, za_88, za_89, za_90, za_91, za_92, za_93, za_94, za_95, za_96, za_97, za_98, za_99, za_100, za_101, za_102, za_103, za_104, za_105, za_106, za_107, za_108, en']
      rfl
    · have en' : (an l = nM) = False := by rw [an_n hl]; exact eq_false c1
      rw [decide_eq_false c1]
      simp (disch := omega) only [zi_t, zi_f, bnd_t, zg_in, zx, nI_ltI, nI_leI, nI_eq, nI_add, pk_mul, pk_sub, mup_s, mup_c, mup_j, mrw_c, if_pos, if_neg, zm_1, zm_2, zm_3, zm_4, zm_5, zm_6, zm_7, zm_8, zm_9, zf_0, zf_1, zf_2, zf_3, zf_4, zf_5, zf_6, zf_7, zf_8, zf_9, zf_10, zf_14, zf_15, zf_16, zf_18, zf_19, zf_20, zf_24, zf_30, zf_31, zf_32, zf_33, zf_99, zf_100, zf_160, zf_200, zf_287, zf_288, zf_300, zf_1000, zf_1023, zf_1024, zf_1600, zf_3840, zf_25600, zf_36000, zf_1000000, zf_1000000000, zf_2000000000, zf_11560, za_1, za_2, za_4, za_5, za_6, za_7, za_8, za_9, za_10, za_11, za_12, za_14, za_15, za_22, za_23, za_25, za_26, za_27, za_28, za_29, za_30, za_31, za_32, za_33, za_34, za_35, za_41, za_42, za_43, za_44, za_45, za_46, za_47, za_48, za_49, za_61, za_62, za_63, za_64, za_65, za_71, za_72, za_73, za_74, za_75, za_76, za_77, za_78, za_79, za_80, za_81, za_82, za_83, za_84, za_85, za_86, za_87, za_88, za_89, za_90, za_91, za_92, za_93, za_94, za_95, za_96, za_97, za_98, za_99, za_100, za_101, za_102, za_103, za_104, za_105, za_106, za_107, za_108, en']
      rfl
