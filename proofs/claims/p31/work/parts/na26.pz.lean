def rlE (k x : Nat) : Bool := decide (x < 6 ∧ x % 3 < k ∧ x % 3 ≠ 1)
theorem rlE_1 : rlE 2 = rlE 1 := by
  funext x
  unfold rlE
  rw [decide_eq_decide]
  omega
theorem rlE_s {k : Nat} (hk : k < 3) (h1 : k ≠ 1) : (fun x => (rlE k x || decide (x = k)) || decide (x = 3 + k)) = rlE (k + 1) := by
  funext x
  unfold rlE
  rw [Bool.eq_iff_iff, Bool.or_eq_true, Bool.or_eq_true, decide_eq_true_eq, decide_eq_true_eq, decide_eq_true_eq, decide_eq_true_eq]
  omega
theorem rlE_0 : rlE 0 = fun _ => false := by
  funext x
  unfold rlE
  exact decide_eq_false (by omega)
theorem cl_rule_in {N st f t k : Nat} {l r : Option Nat} {u : Bool} {m0 m : Mem} {E : Nat → Bool} {D : ArL} (F : Nat) (hN : 40000 < N) (h : DR m 6 st (rlE k) D) (hF : Off 3 7 m0 m) (hD : D.length ≤ 64) (hk : k < 3) (hf : f < 8) (ht : t < 9) (hl : anOK l) (hr : anOK r) :
    ∃ m', Off 3 7 m0 m' ∧ DR m' 6 st (rlE (k + 1)) (D ++ fmN (ckC f t l r u k) 8) ∧ L_X7_rule_81 N (L_X7_rule_72 N F) N m (nI f) (nI t) (an l) (an r) (bI u) (nI k) (nI 0) = L_X7_rule_72 N F m' (nI f) (nI t) (an l) (an r) (bI u) (nI (k + 1)) := by
  refine loopF (fun G (m : Mem) x => L_X7_rule_81 N (L_X7_rule_72 N F) G m (nI f) (nI t) (an l) (an r) (bI u) (nI k) (nI x)) 8 (fun x m' => Off 3 7 m0 m' ∧ DR m' 6 st (rlE k) (D ++ fmN (ckC f t l r u k) x)) (fun o => ∃ m', Off 3 7 m0 m' ∧ DR m' 6 st (rlE (k + 1)) (D ++ fmN (ckC f t l r u k) 8) ∧ o = L_X7_rule_72 N F m' (nI f) (nI t) (an l) (an r) (bI u) (nI (k + 1))) ?_ ?_ N 0 m (Nat.zero_le _) ⟨hF, by show DR m 6 st (rlE k) (D ++ []); rw [List.append_nil]; exact h⟩ (by omega)
  · rintro G x m1 hx ⟨h1, h2⟩
    have hlen := fmN_len (c := 4) (ckC_len f t l r u k) x
    have hask := ask_t hr hx hk
    refine Or.inl ?_
    show ∃ s', (Off 3 7 m0 s' ∧ DR s' 6 st (rlE k) (D ++ fmN (ckC f t l r u k) (x + 1))) ∧ S_X7_rule_81 N (L_X7_rule_72 N F) (L_X7_rule_81 N (L_X7_rule_72 N F) G) m1 (nI f) (nI t) (an l) (an r) (bI u) (nI k) (nI x) = L_X7_rule_81 N (L_X7_rule_72 N F) G s' (nI f) (nI t) (an l) (an r) (bI u) (nI k) (nI (x + 1))
    rw [fmN_s, ← List.append_assoc]
    cases hkn : kn r x k with
    | false =>
      refine ⟨m1, ⟨h1, ?_⟩, ?_⟩
      · unfold ckC
        rw [hkn, if_neg (by simp), List.append_nil]; exact h2
      · unfold S_X7_rule_81 B_X7_rule_167
        simp (disch := omega) only [zi_t, zi_f, bnd_t, zg_in, zx, nI_ltI, nI_leI, nI_eq, nI_add, pk_mul, pk_sub, mup_s, mup_c, mup_j, mrw_c, if_pos, if_neg, zm_1, zm_2, zm_3, zm_4, zm_5, zm_6, zm_7, zm_8, zm_9, zf_0, zf_1, zf_2, zf_3, zf_4, zf_5, zf_6, zf_7, zf_8, zf_9, zf_10, zf_14, zf_15, zf_16, zf_18, zf_19, zf_20, zf_24, zf_30, zf_31, zf_32, zf_33, zf_99, zf_100, zf_160, zf_200, zf_287, zf_288, zf_300, zf_1000, zf_1023, zf_1024, zf_1600, zf_3840, zf_25600, zf_36000, zf_1000000, zf_1000000000, zf_2000000000, zf_11560, za_1, za_2, za_4, za_5, za_6, za_7, za_8, za_9, za_10, za_11, za_12, za_14, za_15, za_22, za_23, za_25, za_26, za_27, za_28, za_29, za_30, za_31, za_32, za_33, za_34, za_35, za_41, za_42, za_43, za_44, za_45, za_46, za_47, za_48, za_49, za_61, za_62, za_63, za_64, za_65, za_70, hask, hkn, bI_f]
    | true =>
      obtain ⟨m2, g1, g2, g3⟩ := cl_copy (N := N) (b := false) (z := lpF l x) h2 (by rw [List.length_append]; omega) hk hx
      have e0 : thS false + k = k := by show 0 + k = k; omega
      rw [e0] at g2
      have hB : ∃ s', (Off 3 7 m0 s' ∧ DR s' 6 st (rlE k) (D ++ fmN (ckC f t l r u k) x ++ ckC f t l r u k x)) ∧ B_X7_rule_116 N (L_X7_rule_72 N F) (L_X7_rule_81 N (L_X7_rule_72 N F) G) m1 (nI f) (nI t) (an l) (an r) (bI u) (nI k) (nI x) (bI (lpF l x)) = L_X7_rule_81 N (L_X7_rule_72 N F) G s' (nI f) (nI t) (an l) (an r) (bI u) (nI k) (nI (x + 1)) := by
        unfold B_X7_rule_116
        rw [show (0 : Int32) = bI false from rfl, calv_t g1]
        by_cases hxf : x = f
        · obtain ⟨m3, k1, k2, k3⟩ := cl_rewriting (N := N) (s := 3 + k) (f := f) (t := t) (l := l) (r := r) (u := u) g2 (by rw [List.length_append, List.length_append, List.length_singleton]; omega) (by omega) hf ht hr
          refine ⟨m3, ⟨(h1.tr g3).tr k3, ?_⟩, ?_⟩
          · unfold ckC
            rw [hkn, if_pos rfl, if_pos hxf]
            rw [List.append_assoc] at k2
            exact k2
          · have e1 : P_X7_ruleState (1 : Int32) (nI k) = nI (3 + k) := ruS_t true k
            have e2 : (nI x = nI f) = True := by rw [hxf]; exact eq_self _
            have e3 : bI (lpF l x) = bI (lpF l f) := by rw [hxf]
            rw [e1, e3]
            unfold B_X7_rule_167
            simp (disch := omega) only [zi_t, zi_f, bnd_t, zg_in, zx, nI_ltI, nI_leI, nI_eq, nI_add, pk_mul, pk_sub, mup_s, mup_c, mup_j, mrw_c, if_pos, if_neg, zm_1, zm_2, zm_3, zm_4, zm_5, zm_6, zm_7, zm_8, zm_9, zf_0, zf_1, zf_2, zf_3, zf_4, zf_5, zf_6, zf_7, zf_8, zf_9, zf_10, zf_14, zf_15, zf_16, zf_18, zf_19, zf_20, zf_24, zf_30, zf_31, zf_32, zf_33, zf_99, zf_100, zf_160, zf_200, zf_287, zf_288, zf_300, zf_1000, zf_1023, zf_1024, zf_1600, zf_3840, zf_25600, zf_36000, zf_1000000, zf_1000000000, zf_2000000000, zf_11560, za_1, za_2, za_4, za_5, za_6, za_7, za_8, za_9, za_10, za_11, za_12, za_14, za_15, za_22, za_23, za_25, za_26, za_27, za_28, za_29, za_30, za_31, za_32, za_33, za_34, za_35, za_41, za_42, za_43, za_44, za_45, za_46, za_47, za_48, za_49, za_61, za_62, za_63, za_64, za_65, za_70, e2]
            rw [calv_t k1]
        · obtain ⟨m3, k1, k2, k3⟩ := cl_copy (N := N) (k := k) (x := x) (b := true) (z := lpF l x) g2 (by rw [List.length_append, List.length_append, List.length_singleton]; omega) hk hx
          refine ⟨m3, ⟨(h1.tr g3).tr k3, ?_⟩, ?_⟩
          · unfold ckC
            rw [hkn, if_pos rfl, if_neg hxf]
            rw [List.append_assoc] at k2
            exact k2
          · have e2 : (nI x = nI f) = False := by rw [nI_eq (by omega) (by omega)]; exact eq_false hxf
            unfold B_X7_rule_167
            have k1' : F_X7_addCopy N m2 (nI 1) (nI k) (nI x) (bI (lpF l x)) = some m3 := k1
            simp (disch := omega) only [zi_t, zi_f, bnd_t, zg_in, zx, nI_ltI, nI_leI, nI_eq, nI_add, pk_mul, pk_sub, mup_s, mup_c, mup_j, mrw_c, if_pos, if_neg, zm_1, zm_2, zm_3, zm_4, zm_5, zm_6, zm_7, zm_8, zm_9, zf_0, zf_1, zf_2, zf_3, zf_4, zf_5, zf_6, zf_7, zf_8, zf_9, zf_10, zf_14, zf_15, zf_16, zf_18, zf_19, zf_20, zf_24, zf_30, zf_31, zf_32, zf_33, zf_99, zf_100, zf_160, zf_200, zf_287, zf_288, zf_300, zf_1000, zf_1023, zf_1024, zf_1600, zf_3840, zf_25600, zf_36000, zf_1000000, zf_1000000000, zf_2000000000, zf_11560, za_1, za_2, za_4, za_5, za_6, za_7, za_8, za_9, za_10, za_11, za_12, za_14, za_15, za_22, za_23, za_25, za_26, za_27, za_28, za_29, za_30, za_31, za_32, za_33, za_34, za_35, za_41, za_42, za_43, za_44, za_45, za_46, za_47, za_48, za_49, za_61, za_62, za_63, za_64, za_65, za_70, e2]
            rw [calv_t k1']
      obtain ⟨s', p1, p2⟩ := hB
      refine ⟨s', p1, ?_⟩
      rw [← p2]
      unfold S_X7_rule_81 B_X7_rule_111
      have en : (an l = nM) = (l = none) := an_n hl
      have es : (nI x = an l) = (l = some x) := an_eq hl (by omega)
      unfold lpF
      by_cases c1 : l = none
      · have en' : (an l = nM) = True := by rw [en]; exact eq_true c1
        rw [decide_eq_true c1, Bool.true_or]
        simp (disch := omega) only [zi_t, zi_f, bnd_t, zg_in, zx, nI_ltI, nI_leI, nI_eq, nI_add, pk_mul, pk_sub, mup_s, mup_c, mup_j, mrw_c, if_pos, if_neg, zm_1, zm_2, zm_3, zm_4, zm_5, zm_6, zm_7, zm_8, zm_9, zf_0, zf_1, zf_2, zf_3, zf_4, zf_5, zf_6, zf_7, zf_8, zf_9, zf_10, zf_14, zf_15, zf_16, zf_18, zf_19, zf_20, zf_24, zf_30, zf_31, zf_32, zf_33, zf_99, zf_100, zf_160, zf_200, zf_287, zf_288, zf_300, zf_1000, zf_1023, zf_1024, zf_1600, zf_3840, zf_25600, zf_36000, zf_1000000, zf_1000000000, zf_2000000000, zf_11560, za_1, za_2, za_4, za_5, za_6, za_7, za_8, za_9, za_10, za_11, za_12, za_14, za_15, za_22, za_23, za_25, za_26, za_27, za_28, za_29, za_30, za_31, za_32, za_33, za_34, za_35, za_41, za_42, za_43, za_44, za_45, za_46, za_47, za_48, za_49, za_61, za_62, za_63, za_64, za_65, za_70, hask, hkn, bI_t, en']
      · have en' : (an l = nM) = False := by rw [en]; exact eq_false c1
        rw [decide_eq_false c1, Bool.false_or]
        by_cases c2 : l = some x
        · have es' : (nI x = an l) = True := by rw [es]; exact eq_true c2
          rw [decide_eq_true c2]
          simp (disch := omega) only [zi_t, zi_f, bnd_t, zg_in, zx, nI_ltI, nI_leI, nI_eq, nI_add, pk_mul, pk_sub, mup_s, mup_c, mup_j, mrw_c, if_pos, if_neg, zm_1, zm_2, zm_3, zm_4, zm_5, zm_6, zm_7, zm_8, zm_9, zf_0, zf_1, zf_2, zf_3, zf_4, zf_5, zf_6, zf_7, zf_8, zf_9, zf_10, zf_14, zf_15, zf_16, zf_18, zf_19, zf_20, zf_24, zf_30, zf_31, zf_32, zf_33, zf_99, zf_100, zf_160, zf_200, zf_287, zf_288, zf_300, zf_1000, zf_1023, zf_1024, zf_1600, zf_3840, zf_25600, zf_36000, zf_1000000, zf_1000000000, zf_2000000000, zf_11560, za_1, za_2, za_4, za_5, za_6, za_7, za_8, za_9, za_10, za_11, za_12, za_14, za_15, za_22, za_23, za_25, za_26, za_27, za_28, za_29, za_30, za_31, za_32, za_33, za_34, za_35, za_41, za_42, za_43, za_44, za_45, za_46, za_47, za_48, za_49, za_61, za_62, za_63, za_64, za_65, za_70, hask, hkn, bI_t, en', es']
        · have es' : (nI x = an l) = False := by rw [es]; exact eq_false c2
          rw [decide_eq_false c2]
          simp (disch := omega) only [zi_t, zi_f, bnd_t, zg_in, zx, nI_ltI, nI_leI, nI_eq, nI_add, pk_mul, pk_sub, mup_s, mup_c, mup_j, mrw_c, if_pos, if_neg, zm_1, zm_2, zm_3, zm_4, zm_5, zm_6, zm_7, zm_8, zm_9, zf_0, zf_1, zf_2, zf_3, zf_4, zf_5, zf_6, zf_7, zf_8, zf_9, zf_10, zf_14, zf_15, zf_16, zf_18, zf_19, zf_20, zf_24, zf_30, zf_31, zf_32, zf_33, zf_99, zf_100, zf_160, zf_200, zf_287, zf_288, zf_300, zf_1000, zf_1023, zf_1024, zf_1600, zf_3840, zf_25600, zf_36000, zf_1000000, zf_1000000000, zf_2000000000, zf_11560, za_1, za_2, za_4, za_5, za_6, za_7, za_8, za_9, za_10, za_11, za_12, za_14, za_15, za_22, za_23, za_25, za_26, za_27, za_28, za_29, za_30, za_31, za_32, za_33, za_34, za_35, za_41, za_42, za_43, za_44, za_45, za_46, za_47, za_48, za_49, za_61, za_62, za_63, za_64, za_65, za_70, hask, hkn, bI_t, bI_f, en', es']
  · rintro G m1 ⟨h1, h2⟩
    show ∃ m', _ ∧ _ ∧ S_X7_rule_81 N (L_X7_rule_72 N F) (L_X7_rule_81 N (L_X7_rule_72 N F) G) m1 (nI f) (nI t) (an l) (an r) (bI u) (nI k) (nI 8) = _
    by_cases hk1 : k = 1
    · refine ⟨m1, h1, ?_, ?_⟩
      · rw [hk1] at h2 ⊢
        rw [rlE_1]; exact h2
      · unfold S_X7_rule_81 B_X7_rule_205
        simp (disch := omega) only [zi_t, zi_f, bnd_t, zg_in, zx, nI_ltI, nI_leI, nI_eq, nI_add, pk_mul, pk_sub, mup_s, mup_c, mup_j, mrw_c, if_pos, if_neg, zm_1, zm_2, zm_3, zm_4, zm_5, zm_6, zm_7, zm_8, zm_9, zf_0, zf_1, zf_2, zf_3, zf_4, zf_5, zf_6, zf_7, zf_8, zf_9, zf_10, zf_14, zf_15, zf_16, zf_18, zf_19, zf_20, zf_24, zf_30, zf_31, zf_32, zf_33, zf_99, zf_100, zf_160, zf_200, zf_287, zf_288, zf_300, zf_1000, zf_1023, zf_1024, zf_1600, zf_3840, zf_25600, zf_36000, zf_1000000, zf_1000000000, zf_2000000000, zf_11560, za_1, za_2, za_4, za_5, za_6, za_7, za_8, za_9, za_10, za_11, za_12, za_14, za_15, za_22, za_23, za_25, za_26, za_27, za_28, za_29, za_30, za_31, za_32, za_33, za_34, za_35, za_41, za_42, za_43, za_44, za_45, za_46, za_47, za_48, za_49, za_61, za_62, za_63, za_64, za_65, za_70, hk1]
    · obtain ⟨m2, g1, g2, g3⟩ := dr_addEnd (N := N) (s := k) h2 (by omega) (by omega)
      obtain ⟨m3, k1, k2, k3⟩ := dr_addEnd (N := N) (s := 3 + k) g2 (by omega) (by omega)
      refine ⟨m3, (h1.tr g3).tr k3, by rw [← rlE_s hk hk1]; exact k2, ?_⟩
      have e0 : P_X7_ruleState (nI 0) (nI k) = nI k := by
        have := ruS_t false k
        rw [show thS false + k = k by show 0 + k = k; omega] at this
        exact this
      have e1 : P_X7_ruleState (nI 1) (nI k) = nI (3 + k) := ruS_t true k
      unfold S_X7_rule_81 B_X7_rule_205
      simp (disch := omega) only [zi_t, zi_f, bnd_t, zg_in, zx, nI_ltI, nI_leI, nI_eq, nI_add, pk_mul, pk_sub, mup_s, mup_c, mup_j, mrw_c, if_pos, if_neg, zm_1, zm_2, zm_3, zm_4, zm_5, zm_6, zm_7, zm_8, zm_9, zf_0, zf_1, zf_2, zf_3, zf_4, zf_5, zf_6, zf_7, zf_8, zf_9, zf_10, zf_14, zf_15, zf_16, zf_18, zf_19, zf_20, zf_24, zf_30, zf_31, zf_32, zf_33, zf_99, zf_100, zf_160, zf_200, zf_287, zf_288, zf_300, zf_1000, zf_1023, zf_1024, zf_1600, zf_3840, zf_25600, zf_36000, zf_1000000, zf_1000000000, zf_2000000000, zf_11560, za_1, za_2, za_4, za_5, za_6, za_7, za_8, za_9, za_10, za_11, za_12, za_14, za_15, za_22, za_23, za_25, za_26, za_27, za_28, za_29, za_30, za_31, za_32, za_33, za_34, za_35, za_41, za_42, za_43, za_44, za_45, za_46, za_47, za_48, za_49, za_61, za_62, za_63, za_64, za_65, za_70, e0, e1]
      rw [calv_t g1, calv_t k1]
theorem cl_rule {N f t : Nat} {l r : Option Nat} {u : Bool} {m : Mem} (hN : 40000 < N) (hf : f < 8) (ht : t < 9) (hl : anOK l) (hr : anOK r) (hround : ¬ (t = 8 ∧ lpF l f = true ∧ (r = none ∨ r = some f))) :
    ∃ md, F_X7_rule N m (nI f) (nI t) (an l) (an r) (bI u) = calx (F_X7_keepDraft N md) (fun r m => some (.inl r, m)) ∧ Off 3 16 m md ∧ DR md 6 (thS (decide (l = none))) (rlE 3) (ruD f t l r u) := by
  have key : ∃ md, B_X7_rule_46 N m (nI f) (nI t) (an l) (an r) (bI u) = calx (F_X7_keepDraft N md) (fun r m => some (.inl r, m)) ∧ Off 3 16 m md ∧ DR md 6 (thS (decide (l = none))) (rlE 3) (ruD f t l r u) := by
    have h62 : B_X7_rule_46 N m (nI f) (nI t) (an l) (an r) (bI u) = B_X7_rule_62 N m (nI f) (nI t) (an l) (an r) (bI u) (bI (decide (l = none))) (nI 6) := by
      unfold B_X7_rule_46
      by_cases c1 : l = none
      · have en' : (an l = nM) = True := by rw [an_n hl]; exact eq_true c1
        rw [decide_eq_true c1]
        simp (disch := omega) only [zi_t, zi_f, bnd_t, zg_in, zx, nI_ltI, nI_leI, nI_eq, nI_add, pk_mul, pk_sub, mup_s, mup_c, mup_j, mrw_c, if_pos, if_neg, zm_1, zm_2, zm_3, zm_4, zm_5, zm_6, zm_7, zm_8, zm_9, zf_0, zf_1, zf_2, zf_3, zf_4, zf_5, zf_6, zf_7, zf_8, zf_9, zf_10, zf_14, zf_15, zf_16, zf_18, zf_19, zf_20, zf_24, zf_30, zf_31, zf_32, zf_33, zf_99, zf_100, zf_160, zf_200, zf_287, zf_288, zf_300, zf_1000, zf_1023, zf_1024, zf_1600, zf_3840, zf_25600, zf_36000, zf_1000000, zf_1000000000, zf_2000000000, zf_11560, za_1, za_2, za_4, za_5, za_6, za_7, za_8, za_9, za_10, za_11, za_12, za_14, za_15, za_22, za_23, za_25, za_26, za_27, za_28, za_29, za_30, za_31, za_32, za_33, za_34, za_35, za_41, za_42, za_43, za_44, za_45, za_46, za_47, za_48, za_49, za_61, za_62, za_63, za_64, za_65, za_70, en', bI_t]
      · have en' : (an l = nM) = False := by rw [an_n hl]; exact eq_false c1
        rw [decide_eq_false c1]
        simp (disch := omega) only [zi_t, zi_f, bnd_t, zg_in, zx, nI_ltI, nI_leI, nI_eq, nI_add, pk_mul, pk_sub, mup_s, mup_c, mup_j, mrw_c, if_pos, if_neg, zm_1, zm_2, zm_3, zm_4, zm_5, zm_6, zm_7, zm_8, zm_9, zf_0, zf_1, zf_2, zf_3, zf_4, zf_5, zf_6, zf_7, zf_8, zf_9, zf_10, zf_14, zf_15, zf_16, zf_18, zf_19, zf_20, zf_24, zf_30, zf_31, zf_32, zf_33, zf_99, zf_100, zf_160, zf_200, zf_287, zf_288, zf_300, zf_1000, zf_1023, zf_1024, zf_1600, zf_3840, zf_25600, zf_36000, zf_1000000, zf_1000000000, zf_2000000000, zf_11560, za_1, za_2, za_4, za_5, za_6, za_7, za_8, za_9, za_10, za_11, za_12, za_14, za_15, za_22, za_23, za_25, za_26, za_27, za_28, za_29, za_30, za_31, za_32, za_33, za_34, za_35, za_41, za_42, za_43, za_44, za_45, za_46, za_47, za_48, za_49, za_61, za_62, za_63, za_64, za_65, za_70, en', bI_f]
    rw [h62]
    unfold B_X7_rule_62
    have hT := thS_le (decide (l = none))
    obtain ⟨m2, c1, c2, c3⟩ := dr_begin' (N := N) (n := 6) (st := thS (decide (l = none))) (m := m) (by omega) (by omega)
    rw [show (0 : Int32) = nI 0 from rfl, ruS_t, Nat.add_zero, calv_t c1]
    refine loopF (fun F (m : Mem) k => L_X7_rule_72 N F m (nI f) (nI t) (an l) (an r) (bI u) (nI k)) 3 (fun k m' => Off 3 7 m m' ∧ DR m' 6 (thS (decide (l = none))) (rlE k) (fmN (fun k => fmN (ckC f t l r u k) 8) k)) (fun o => ∃ md, o = calx (F_X7_keepDraft N md) (fun r m => some (.inl r, m)) ∧ Off 3 16 m md ∧ DR md 6 (thS (decide (l = none))) (rlE 3) (ruD f t l r u)) ?_ ?_ N 0 m2 (Nat.zero_le _) ⟨c3, by rw [rlE_0]; exact c2⟩ (by omega)
    · rintro F k m1 hk ⟨h1, h2⟩
      have hlen := fmN_len (h := fun k => fmN (ckC f t l r u k) 8) (c := 32) (fun k => fmN_len (c := 4) (ckC_len f t l r u k) 8) k
      obtain ⟨m', g1, g2, g3⟩ := cl_rule_in (N := N) (E := rlE k) (u := u) F hN h2 h1 (by omega) hk hf ht hl hr
      refine Or.inl ⟨m', ⟨g1, by rw [fmN_s]; exact g2⟩, ?_⟩
      rw [← g3]
      show S_X7_rule_72 N (L_X7_rule_72 N F) m1 (nI f) (nI t) (an l) (an r) (bI u) (nI k) = _
      unfold S_X7_rule_72
      simp (disch := omega) only [zi_t, zi_f, bnd_t, zg_in, zx, nI_ltI, nI_leI, nI_eq, nI_add, pk_mul, pk_sub, mup_s, mup_c, mup_j, mrw_c, if_pos, if_neg, zm_1, zm_2, zm_3, zm_4, zm_5, zm_6, zm_7, zm_8, zm_9, zf_0, zf_1, zf_2, zf_3, zf_4, zf_5, zf_6, zf_7, zf_8, zf_9, zf_10, zf_14, zf_15, zf_16, zf_18, zf_19, zf_20, zf_24, zf_30, zf_31, zf_32, zf_33, zf_99, zf_100, zf_160, zf_200, zf_287, zf_288, zf_300, zf_1000, zf_1023, zf_1024, zf_1600, zf_3840, zf_25600, zf_36000, zf_1000000, zf_1000000000, zf_2000000000, zf_11560, za_1, za_2, za_4, za_5, za_6, za_7, za_8, za_9, za_10, za_11, za_12, za_14, za_15, za_22, za_23, za_25, za_26, za_27, za_28, za_29, za_30, za_31, za_32, za_33, za_34, za_35, za_41, za_42, za_43, za_44, za_45, za_46, za_47, za_48, za_49, za_61, za_62, za_63, za_64, za_65, za_70]
    · rintro F m1 ⟨h1, h2⟩
      refine ⟨m1, ?_, h1.wd (by omega) (by omega), h2⟩
      show S_X7_rule_72 N (L_X7_rule_72 N F) m1 (nI f) (nI t) (an l) (an r) (bI u) (nI 3) = _
      unfold S_X7_rule_72
      simp (disch := omega) only [zi_t, zi_f, bnd_t, zg_in, zx, nI_ltI, nI_leI, nI_eq, nI_add, pk_mul, pk_sub, mup_s, mup_c, mup_j, mrw_c, if_pos, if_neg, zm_1, zm_2, zm_3, zm_4, zm_5, zm_6, zm_7, zm_8, zm_9, zf_0, zf_1, zf_2, zf_3, zf_4, zf_5, zf_6, zf_7, zf_8, zf_9, zf_10, zf_14, zf_15, zf_16, zf_18, zf_19, zf_20, zf_24, zf_30, zf_31, zf_32, zf_33, zf_99, zf_100, zf_160, zf_200, zf_287, zf_288, zf_300, zf_1000, zf_1023, zf_1024, zf_1600, zf_3840, zf_25600, zf_36000, zf_1000000, zf_1000000000, zf_2000000000, zf_11560, za_1, za_2, za_4, za_5, za_6, za_7, za_8, za_9, za_10, za_11, za_12, za_14, za_15, za_22, za_23, za_25, za_26, za_27, za_28, za_29, za_30, za_31, za_32, za_33, za_34, za_35, za_41, za_42, za_43, za_44, za_45, za_46, za_47, za_48, za_49, za_61, za_62, za_63, za_64, za_65, za_70]
  obtain ⟨md, k1, k2⟩ := key
  refine ⟨md, ?_, k2⟩
  rw [← k1]
  unfold F_X7_rule
  rw [calx_t (rule_ok hf ht hl hr)]
  by_cases c8 : t = 8
  · have h24 : lpF l f = true → B_X7_rule_24 N m (nI f) (nI t) (an l) (an r) (bI u) = B_X7_rule_46 N m (nI f) (nI t) (an l) (an r) (bI u) := by
      intro hlp
      unfold B_X7_rule_24
      have e1 : (an r = nM) = False := by rw [an_n hr]; exact eq_false (fun h => hround ⟨c8, hlp, Or.inl h⟩)
      have e2 : (an r = nI f) = False := by rw [an_eq' hr (by omega)]; exact eq_false (fun h => hround ⟨c8, hlp, Or.inr h⟩)
      simp (disch := omega) only [zi_t, zi_f, bnd_t, zg_in, zx, nI_ltI, nI_leI, nI_eq, nI_add, pk_mul, pk_sub, mup_s, mup_c, mup_j, mrw_c, if_pos, if_neg, zm_1, zm_2, zm_3, zm_4, zm_5, zm_6, zm_7, zm_8, zm_9, zf_0, zf_1, zf_2, zf_3, zf_4, zf_5, zf_6, zf_7, zf_8, zf_9, zf_10, zf_14, zf_15, zf_16, zf_18, zf_19, zf_20, zf_24, zf_30, zf_31, zf_32, zf_33, zf_99, zf_100, zf_160, zf_200, zf_287, zf_288, zf_300, zf_1000, zf_1023, zf_1024, zf_1600, zf_3840, zf_25600, zf_36000, zf_1000000, zf_1000000000, zf_2000000000, zf_11560, za_1, za_2, za_4, za_5, za_6, za_7, za_8, za_9, za_10, za_11, za_12, za_14, za_15, za_22, za_23, za_25, za_26, za_27, za_28, za_29, za_30, za_31, za_32, za_33, za_34, za_35, za_41, za_42, za_43, za_44, za_45, za_46, za_47, za_48, za_49, za_61, za_62, za_63, za_64, za_65, za_70, e1, e2]
    by_cases c1 : l = none
    · have e1 : (an l = nM) = True := by rw [an_n hl]; exact eq_true c1
      have := h24 (by unfold lpF; rw [decide_eq_true c1]; rfl)
      simp (disch := omega) only [zi_t, zi_f, bnd_t, zg_in, zx, nI_ltI, nI_leI, nI_eq, nI_add, pk_mul, pk_sub, mup_s, mup_c, mup_j, mrw_c, if_pos, if_neg, zm_1, zm_2, zm_3, zm_4, zm_5, zm_6, zm_7, zm_8, zm_9, zf_0, zf_1, zf_2, zf_3, zf_4, zf_5, zf_6, zf_7, zf_8, zf_9, zf_10, zf_14, zf_15, zf_16, zf_18, zf_19, zf_20, zf_24, zf_30, zf_31, zf_32, zf_33, zf_99, zf_100, zf_160, zf_200, zf_287, zf_288, zf_300, zf_1000, zf_1023, zf_1024, zf_1600, zf_3840, zf_25600, zf_36000, zf_1000000, zf_1000000000, zf_2000000000, zf_11560, za_1, za_2, za_4, za_5, za_6, za_7, za_8, za_9, za_10, za_11, za_12, za_14, za_15, za_22, za_23, za_25, za_26, za_27, za_28, za_29, za_30, za_31, za_32, za_33, za_34, za_35, za_41, za_42, za_43, za_44, za_45, za_46, za_47, za_48, za_49, za_61, za_62, za_63, za_64, za_65, za_70, c8, e1]
      rw [c8] at this
      exact this
    · have e1 : (an l = nM) = False := by rw [an_n hl]; exact eq_false c1
      by_cases c2 : l = some f
      · have e2 : (an l = nI f) = True := by rw [an_eq' hl (by omega)]; exact eq_true c2
        have := h24 (by unfold lpF; rw [decide_eq_true c2, Bool.or_true])
        simp (disch := omega) only [zi_t, zi_f, bnd_t, zg_in, zx, nI_ltI, nI_leI, nI_eq, nI_add, pk_mul, pk_sub, mup_s, mup_c, mup_j, mrw_c, if_pos, if_neg, zm_1, zm_2, zm_3, zm_4, zm_5, zm_6, zm_7, zm_8, zm_9, zf_0, zf_1, zf_2, zf_3, zf_4, zf_5, zf_6, zf_7, zf_8, zf_9, zf_10, zf_14, zf_15, zf_16, zf_18, zf_19, zf_20, zf_24, zf_30, zf_31, zf_32, zf_33, zf_99, zf_100, zf_160, zf_200, zf_287, zf_288, zf_300, zf_1000, zf_1023, zf_1024, zf_1600, zf_3840, zf_25600, zf_36000, zf_1000000, zf_1000000000, zf_2000000000, zf_11560, za_1, za_2, za_4, za_5, za_6, za_7, za_8, za_9, za_10, za_11, za_12, za_14, za_15, za_22, za_23, za_25, za_26, za_27, za_28, za_29, za_30, za_31, za_32, za_33, za_34, za_35, za_41, za_42, za_43, za_44, za_45, za_46, za_47, za_48, za_49, za_61, za_62, za_63, za_64, za_65, za_70, c8, e1, e2]
        rw [c8] at this
        exact this
      · have e2 : (an l = nI f) = False := by rw [an_eq' hl (by omega)]; exact eq_false c2
        simp (disch := omega) only [zi_t, zi_f, bnd_t, zg_in, zx, nI_ltI, nI_leI, nI_eq, nI_add, pk_mul, pk_sub, mup_s, mup_c, mup_j, mrw_c, if_pos, if_neg, zm_1, zm_2, zm_3, zm_4, zm_5, zm_6, zm_7, zm_8, zm_9, zf_0, zf_1, zf_2, zf_3, zf_4, zf_5, zf_6, zf_7, zf_8, zf_9, zf_10, zf_14, zf_15, zf_16, zf_18, zf_19, zf_20, zf_24, zf_30, zf_31, zf_32, zf_33, zf_99, zf_100, zf_160, zf_200, zf_287, zf_288, zf_300, zf_1000, zf_1023, zf_1024, zf_1600, zf_3840, zf_25600, zf_36000, zf_1000000, zf_1000000000, zf_2000000000, zf_11560, za_1, za_2, za_4, za_5, za_6, za_7, za_8, za_9, za_10, za_11, za_12, za_14, za_15, za_22, za_23, za_25, za_26, za_27, za_28, za_29, za_30, za_31, za_32, za_33, za_34, za_35, za_41, za_42, za_43, za_44, za_45, za_46, za_47, za_48, za_49, za_61, za_62, za_63, za_64, za_65, za_70, c8, e1, e2]
  · have e8 : (nI t = nI 8) = False := by rw [nI_eq (by omega) (by omega)]; exact eq_false c8
    simp (disch := omega) only [zi_t, zi_f, bnd_t, zg_in, zx, nI_ltI, nI_leI, nI_eq, nI_add, pk_mul, pk_sub, mup_s, mup_c, mup_j, mrw_c, if_pos, if_neg, zm_1, zm_2, zm_3, zm_4, zm_5, zm_6, zm_7, zm_8, zm_9, zf_0, zf_1, zf_2, zf_3, zf_4, zf_5, zf_6, zf_7, zf_8, zf_9, zf_10, zf_14, zf_15, zf_16, zf_18, zf_19, zf_20, zf_24, zf_30, zf_31, zf_32, zf_33, zf_99, zf_100, zf_160, zf_200, zf_287, zf_288, zf_300, zf_1000, zf_1023, zf_1024, zf_1600, zf_3840, zf_25600, zf_36000, zf_1000000, zf_1000000000, zf_2000000000, zf_11560, za_1, za_2, za_4, za_5, za_6, za_7, za_8, za_9, za_10, za_11, za_12, za_14, za_15, za_22, za_23, za_25, za_26, za_27, za_28, za_29, za_30, za_31, za_32, za_33, za_34, za_35, za_41, za_42, za_43, za_44, za_45, za_46, za_47, za_48, za_49, za_61, za_62, za_63, za_64, za_65, za_70, e8]
