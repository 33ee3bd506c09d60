theorem mo_guess {N : Nat} {Ms : List Ma} {w : List Nat} {ls : Ls} {m : Mem} (hN : 40000 < N) (hV : InV Ms w ls) (hM : InM m Ms w ls) : F_X8_guess N m = some (gsR w ls, mup m 70 0 (nI 0)) := by
  obtain ⟨v1, v2, v3, v4, v5, v6⟩ := hV
  obtain ⟨h1, h2, h3, h4, h5, h6⟩ := hM.up0 (nI 0)
  have hcm : ∀ k, cmf w ls k ≤ 8 := fun k => Nat.le_trans (cmv_le _ _) v3
  have hlg : ∀ k, mxc (cmf w ls) k ≤ 8 := mxc_le hcm
  have hin : ∀ k, k < ls.length → (lsw ls k).length ≤ 8 ∧ (∀ x, x ∈ lsw ls k → x < 8) ∧ lsk ls k < 6 := fun k hk => v6 _ (List.mem_of_getElem? (ls_at hk))
  obtain ⟨m1, hm1⟩ : ∃ m1, m1 = mup m 70 0 (nI 0) := ⟨_, rfl⟩
  rw [← hm1] at h1 h3 h5 ⊢
  rw [← hm1] at h2 h4 h6
  have hco : ∀ k, k < ls.length → F_X8_inCommon N m1 (nI k) = some (nI (cmf w ls k), m1) := by
    intro k hk
    obtain ⟨p1, p2, p3⟩ := h6 k _ (ls_at hk)
    obtain ⟨q1, q2, q3⟩ := hin k hk
    exact mo_common (N := N) hN h3 h4 p1 p3 v3 q1 v4 q2 (by omega)
  unfold F_X8_guess
  show bnd (mup m 70 0 (nI 0)) _ = _
  rw [← hm1]
  show L_X8_guess_9 N N m1 (nI 0) (nI 0) = _
  refine loopF (σ := Unit) (fun F _ k => L_X8_guess_9 N F m1 (nI (mxc (cmf w ls) k)) (nI k)) ls.length (fun _ _ => True) (fun o => o = some (gsR w ls, m1)) ?_ ?_ N 0 () (Nat.zero_le _) trivial (by omega)
  · rintro F k _ hk _
    have b1 := hlg k
    have b2 := hcm k
    refine Or.inl ⟨(), trivial, ?_⟩
    show S_X8_guess_9 N (L_X8_guess_9 N F) m1 (nI (mxc (cmf w ls) k)) (nI k) = L_X8_guess_9 N F m1 (nI (if mxc (cmf w ls) k < cmf w ls k then cmf w ls k else mxc (cmf w ls) k)) (nI (k + 1))
    unfold S_X8_guess_9
    simp (disch := omega) only [zi_t, zi_f, bnd_t, zg_in, zx, nI_ltI, nI_leI, nI_eq, nI_add, pk_mul, pk_sub, mup_s, mup_c, mup_j, mrw_c, if_pos, if_neg, zm_1, zm_2, zm_3, zm_4, zm_5, zm_6, zm_7, zm_8, zm_9, zf_0, zf_1, zf_2, zf_3, zf_4, zf_5, zf_6, zf_7, zf_8, zf_9, zf_10, zf_14, zf_15, zf_16, zf_18, zf_19, zf_20, zf_24, zf_30, zf_31, zf_32, zf_33, zf_99, zf_100, zf_160, zf_200, zf_287, zf_288, zf_300, zf_1000, zf_1023, zf_1024, zf_1600, zf_3840, zf_25600, zf_36000, zf_1000000, zf_1000000000, zf_2000000000, zf_11560, za_1, za_2, za_4, za_5, za_6, za_7, za_8, za_9, za_10, za_11, za_12, za_14, za_15, za_22, za_23, za_25, za_26, za_27, za_28, za_29, za_30, za_31, za_32, za_33, za_34, za_35, za_41, za_42, za_43, za_44, za_45, za_46, za_47, za_48, za_49, za_61, za_62, za_63, za_64, za_65, za_71, za_72, za_73, za_74, za_75, za_76, za_77, za_78, za_79, za_80, za_81, za_82, za_83, za_84, za_85, za_86, za_87, za_88, za_89, za_90, za_91, za_92, za_93, za_94, za_95, za_96, za_97, za_98, za_99, za_100, za_101, za_102, za_103, za_104, za_105, za_106, za_107, za_108, h5]
    rw [cal_t (hco k hk)]
    unfold B_X8_guess_35
    by_cases c : mxc (cmf w ls) k < cmf w ls k
    · rw [if_pos c]
      have c' : ¬ nI (cmf w ls k) ≤ nI (mxc (cmf w ls) k) := fun h => by have := (nI_leI (by omega) (by omega)).mp h; omega
      simp (disch := omega) only [zi_t, zi_f, bnd_t, zg_in, zx, nI_ltI, nI_leI, nI_eq, nI_add, pk_mul, pk_sub, mup_s, mup_c, mup_j, mrw_c, if_pos, if_neg, zm_1, zm_2, zm_3, zm_4, zm_5, zm_6, zm_7, zm_8, zm_9, zf_0, zf_1, zf_2, zf_3, zf_4, zf_5, zf_6, zf_7, zf_8, zf_9, zf_10, zf_14, zf_15, zf_16, zf_18, zf_19, zf_20, zf_24, zf_30, zf_31, zf_32, zf_33, zf_99, zf_100, zf_160, zf_200, zf_287, zf_288, zf_300, zf_1000, zf_1023, zf_1024, zf_1600, zf_3840, zf_25600, zf_36000, zf_1000000, zf_1000000000, zf_2000000000, zf_11560, za_1, za_2, za_4, za_5, za_6, za_7, za_8, za_9, za_10, za_11, za_12, za_14, za_15, za_22, za_23, za_25, za_26, za_27, za_28, za_29, za_30, za_31, za_32, za_33, za_34, za_35, za_41, za_42, za_43, za_44, za_45, za_46, za_47, za_48, za_49, za_61, za_62, za_63, za_64, za_65, za_71, za_72, za_73, za_74, za_75, za_76, za_77, za_78, za_79, za_80, za_81, za_82, za_83, za_84, za_85, za_86, za_87, za_88, za_89, za_90, za_91, za_92, za_93, za_94, za_95, za_96, za_97, za_98, za_99, za_100, za_101, za_102, za_103, za_104, za_105, za_106, za_107, za_108, c']
      rw [cal_t (hco k hk)]
    · rw [if_neg c]
      have c' : nI (cmf w ls k) ≤ nI (mxc (cmf w ls) k) := (nI_leI (by omega) (by omega)).mpr (by omega)
      simp (disch := omega) only [zi_t, zi_f, bnd_t, zg_in, zx, nI_ltI, nI_leI, nI_eq, nI_add, pk_mul, pk_sub, mup_s, mup_c, mup_j, mrw_c, if_pos, if_neg, zm_1, zm_2, zm_3, zm_4, zm_5, zm_6, zm_7, zm_8, zm_9, zf_0, zf_1, zf_2, zf_3, zf_4, zf_5, zf_6, zf_7, zf_8, zf_9, zf_10, zf_14, zf_15, zf_16, zf_18, zf_19, zf_20, zf_24, zf_30, zf_31, zf_32, zf_33, zf_99, zf_100, zf_160, zf_200, zf_287, zf_288, zf_300, zf_1000, zf_1023, zf_1024, zf_1600, zf_3840, zf_25600, zf_36000, zf_1000000, zf_1000000000, zf_2000000000, zf_11560, za_1, za_2, za_4, za_5, za_6, za_7, za_8, za_9, za_10, za_11, za_12, za_14, za_15, za_22, za_23, za_25, za_26, za_27, za_28, za_29, za_30, za_31, za_32, za_33, za_34, za_35, za_41, za_42, za_43, za_44, za_45, za_46, za_47, za_48, za_49, za_61, za_62, za_63, za_64, za_65, za_71, za_72, za_73, za_74, za_75, za_76, za_77, za_78, za_79, za_80, za_81, za_82, za_83, za_84, za_85, za_86, za_87, za_88, za_89, za_90, za_91, za_92, za_93, za_94, za_95, za_96, za_97, za_98, za_99, za_100, za_101, za_102, za_103, za_104, za_105, za_106, za_107, za_108, c']
  · rintro F _ _
    have b1 : lgf w ls ≤ 8 := hlg ls.length
    have hvt : ∀ c, vtf w ls c ≤ 30 := fun c => Nat.le_trans (vtK_le w ls c ls.length) v5
    show S_X8_guess_9 N (L_X8_guess_9 N F) m1 (nI (lgf w ls)) (nI ls.length) = _
    unfold S_X8_guess_9
    unfold gsR
    by_cases c : lgf w ls = 0
    · rw [if_pos c]
      simp (disch := omega) only [zi_t, zi_f, bnd_t, zg_in, zx, nI_ltI, nI_leI, nI_eq, nI_add, pk_mul, pk_sub, mup_s, mup_c, mup_j, mrw_c, if_pos, if_neg, zm_1, zm_2, zm_3, zm_4, zm_5, zm_6, zm_7, zm_8, zm_9, zf_0, zf_1, zf_2, zf_3, zf_4, zf_5, zf_6, zf_7, zf_8, zf_9, zf_10, zf_14, zf_15, zf_16, zf_18, zf_19, zf_20, zf_24, zf_30, zf_31, zf_32, zf_33, zf_99, zf_100, zf_160, zf_200, zf_287, zf_288, zf_300, zf_1000, zf_1023, zf_1024, zf_1600, zf_3840, zf_25600, zf_36000, zf_1000000, zf_1000000000, zf_2000000000, zf_11560, za_1, za_2, za_4, za_5, za_6, za_7, za_8, za_9, za_10, za_11, za_12, za_14, za_15, za_22, za_23, za_25, za_26, za_27, za_28, za_29, za_30, za_31, za_32, za_33, za_34, za_35, za_41, za_42, za_43, za_44, za_45, za_46, za_47, za_48, za_49, za_61, za_62, za_63, za_64, za_65, za_71, za_72, za_73, za_74, za_75, za_76, za_77, za_78, za_79, za_80, za_81, za_82, za_83, za_84, za_85, za_86, za_87, za_88, za_89, za_90, za_91, za_92, za_93, za_94, za_95, za_96, za_97, za_98, za_99, za_100, za_101, za_102, za_103, za_104, za_105, za_106, za_107, za_108, h5, c]
    · rw [if_neg c]
      have c' : ¬ nI (lgf w ls) = nI 0 := fun h => c ((nI_eq (b := 0) (by omega) (by omega)).mp h)
      simp (disch := omega) only [zi_t, zi_f, bnd_t, zg_in, zx, nI_ltI, nI_leI, nI_eq, nI_add, pk_mul, pk_sub, mup_s, mup_c, mup_j, mrw_c, if_pos, if_neg, zm_1, zm_2, zm_3, zm_4, zm_5, zm_6, zm_7, zm_8, zm_9, zf_0, zf_1, zf_2, zf_3, zf_4, zf_5, zf_6, zf_7, zf_8, zf_9, zf_10, zf_14, zf_15, zf_16, zf_18, zf_19, zf_20, zf_24, zf_30, zf_31, zf_32, zf_33, zf_99, zf_100, zf_160, zf_200, zf_287, zf_288, zf_300, zf_1000, zf_1023, zf_1024, zf_1600, zf_3840, zf_25600, zf_36000, zf_1000000, zf_1000000000, zf_2000000000, zf_11560, za_1, za_2, za_4, za_5, za_6, za_7, za_8, za_9, za_10, za_11, za_12, za_14, za_15, za_22, za_23, za_25, za_26, za_27, za_28, za_29, za_30, za_31, za_32, za_33, za_34, za_35, za_41, za_42, za_43, za_44, za_45, za_46, za_47, za_48, za_49, za_61, za_62, za_63, za_64, za_65, za_71, za_72, za_73, za_74, za_75, za_76, za_77, za_78, za_79, za_80, za_81, za_82, za_83, za_84, za_85, za_86, za_87, za_88, za_89, za_90, za_91, za_92, za_93, za_94, za_95, za_96, za_97, za_98, za_99, za_100, za_101, za_102, za_103, za_104, za_105, za_106, za_107, za_108, h5, c']
      have hin68 : ∀ (most best c : Nat) (rec : Mem → Int32 → Int32 → Int32 → Int32 → Option (Int32 × Mem)), most ≤ 30 → c < 6 →
          L_X8_guess_68 N rec N m1 (nI (lgf w ls)) (nI most) (nI best) (nI c) (nI 0) (nI 0) = rec m1 (nI (lgf w ls)) (nI (if most < vtf w ls c then vtf w ls c else most)) (nI (if most < vtf w ls c then c else best)) (nI (c + 1)) := by
        intro most best c rec hmo hc6
        refine loopF (σ := Unit) (fun G _ k => L_X8_guess_68 N rec G m1 (nI (lgf w ls)) (nI most) (nI best) (nI c) (nI (vtK w ls c k)) (nI k)) ls.length (fun _ _ => True) (fun o => o = rec m1 (nI (lgf w ls)) (nI (if most < vtf w ls c then vtf w ls c else most)) (nI (if most < vtf w ls c then c else best)) (nI (c + 1))) ?_ ?_ N 0 () (Nat.zero_le _) trivial (by omega)
        · rintro G k _ hk _
          have e107 := (h6 k _ (ls_at hk)).2.1
          have b3 := (hin k hk).2.2
          have b4 := hcm k
          refine Or.inl ⟨(), trivial, ?_⟩
          show S_X8_guess_68 N rec (L_X8_guess_68 N rec G) m1 (nI (lgf w ls)) (nI most) (nI best) (nI c) (nI (vtK w ls c k)) (nI k) = L_X8_guess_68 N rec G m1 (nI (lgf w ls)) (nI most) (nI best) (nI c) (nI (vtK w ls c k + if (decide (cmf w ls k = lgf w ls) && decide (lsk ls k = c)) = true then 1 else 0)) (nI (k + 1))
          unfold S_X8_guess_68 B_X8_guess_105
          by_cases c1 : lsk ls k = c
          · have c1' : nI (lsk ls k) = nI c := by rw [c1]
            simp (disch := omega) only [zi_t, zi_f, bnd_t, zg_in, zx, nI_ltI, nI_leI, nI_eq, nI_add, pk_mul, pk_sub, mup_s, mup_c, mup_j, mrw_c, if_pos, if_neg, zm_1, zm_2, zm_3, zm_4, zm_5, zm_6, zm_7, zm_8, zm_9, zf_0, zf_1, zf_2, zf_3, zf_4, zf_5, zf_6, zf_7, zf_8, zf_9, zf_10, zf_14, zf_15, zf_16, zf_18, zf_19, zf_20, zf_24, zf_30, zf_31, zf_32, zf_33, zf_99, zf_100, zf_160, zf_200, zf_287, zf_288, zf_300, zf_1000, zf_1023, zf_1024, zf_1600, zf_3840, zf_25600, zf_36000, zf_1000000, zf_1000000000, zf_2000000000, zf_11560, za_1, za_2, za_4, za_5, za_6, za_7, za_8, za_9, za_10, za_11, za_12, za_14, za_15, za_22, za_23, za_25, za_26, za_27, za_28, za_29, za_30, za_31, za_32, za_33, za_34, za_35, za_41, za_42, za_43, za_44, za_45, za_46, za_47, za_48, za_49, za_61, za_62, za_63, za_64, za_65, za_71, za_72, za_73, za_74, za_75, za_76, za_77, za_78, za_79, za_80, za_81, za_82, za_83, za_84, za_85, za_86, za_87, za_88, za_89, za_90, za_91, za_92, za_93, za_94, za_95, za_96, za_97, za_98, za_99, za_100, za_101, za_102, za_103, za_104, za_105, za_106, za_107, za_108, h5, e107, c1']
            rw [cal_t (hco k hk)]
            unfold B_X8_guess_106
            by_cases c2 : cmf w ls k = lgf w ls
            · have c2' : nI (cmf w ls k) = nI (lgf w ls) := by rw [c2]
              rw [decide_eq_true c1, decide_eq_true c2]
              simp (disch := omega) only [zi_t, zi_f, bnd_t, zg_in, zx, nI_ltI, nI_leI, nI_eq, nI_add, pk_mul, pk_sub, mup_s, mup_c, mup_j, mrw_c, if_pos, if_neg, zm_1, zm_2, zm_3, zm_4, zm_5, zm_6, zm_7, zm_8, zm_9, zf_0, zf_1, zf_2, zf_3, zf_4, zf_5, zf_6, zf_7, zf_8, zf_9, zf_10, zf_14, zf_15, zf_16, zf_18, zf_19, zf_20, zf_24, zf_30, zf_31, zf_32, zf_33, zf_99, zf_100, zf_160, zf_200, zf_287, zf_288, zf_300, zf_1000, zf_1023, zf_1024, zf_1600, zf_3840, zf_25600, zf_36000, zf_1000000, zf_1000000000, zf_2000000000, zf_11560, za_1, za_2, za_4, za_5, za_6, za_7, za_8, za_9, za_10, za_11, za_12, za_14, za_15, za_22, za_23, za_25, za_26, za_27, za_28, za_29, za_30, za_31, za_32, za_33, za_34, za_35, za_41, za_42, za_43, za_44, za_45, za_46, za_47, za_48, za_49, za_61, za_62, za_63, za_64, za_65, za_71, za_72, za_73, za_74, za_75, za_76, za_77, za_78, za_79, za_80, za_81, za_82, za_83, za_84, za_85, za_86, za_87, za_88, za_89, za_90, za_91, za_92, za_93, za_94, za_95, za_96, za_97, za_98, za_99, za_100, za_101, za_102, za_103, za_104, za_105, za_106, za_107, za_108, c2']
              rfl
            · have c2' : ¬ nI (cmf w ls k) = nI (lgf w ls) := fun h => c2 ((nI_eq (by omega) (by omega)).mp h)
              rw [decide_eq_true c1, decide_eq_false c2]
              simp (disch := omega) only [zi_t, zi_f, bnd_t, zg_in, zx, nI_ltI, nI_leI, nI_eq, nI_add, pk_mul, pk_sub, mup_s, mup_c, mup_j, mrw_c, if_pos, if_neg, zm_1, zm_2, zm_3, zm_4, zm_5, zm_6, zm_7, zm_8, zm_9, zf_0, zf_1, zf_2, zf_3, zf_4, zf_5, zf_6, zf_7, zf_8, zf_9, zf_10, zf_14, zf_15, zf_16, zf_18, zf_19, zf_20, zf_24, zf_30, zf_31, zf_32, zf_33, zf_99, zf_100, zf_160, zf_200, zf_287, zf_288, zf_300, zf_1000, zf_1023, zf_1024, zf_1600, zf_3840, zf_25600, zf_36000, zf_1000000, zf_1000000000, zf_2000000000, zf_11560, za_1, za_2, za_4, za_5, za_6, za_7, za_8, za_9, za_10, za_11, za_12, za_14, za_15, za_22, za_23, za_25, za_26, za_27, za_28, za_29, za_30, za_31, za_32, za_33, za_34, za_35, za_41, za_42, za_43, za_44, za_45, za_46, za_47, za_48, za_49, za_61, za_62, za_63, za_64, za_65, za_71, za_72, za_73, za_74, za_75, za_76, za_77, za_78, za_79, za_80, za_81, za_82, za_83, za_84, za_85, za_86, za_87, za_88, za_89, za_90, za_91, za_92, za_93, za_94, za_95, za_96, za_97, za_98, za_99, za_100, za_101, za_102, za_103, za_104, za_105, za_106, za_107, za_108, c2']
              rfl
          · have c1' : ¬ nI (lsk ls k) = nI c := fun h => c1 ((nI_eq (by omega) (by omega)).mp h)
            rw [decide_eq_false c1, Bool.and_false]
            unfold B_X8_guess_106
            simp (disch := omega) only [zi_t, zi_f, bnd_t, zg_in, zx, nI_ltI, nI_leI, nI_eq, nI_add, pk_mul, pk_sub, mup_s, mup_c, mup_j, mrw_c, if_pos, if_neg, zm_1, zm_2, zm_3, zm_4, zm_5, zm_6, zm_7, zm_8, zm_9, zf_0, zf_1, zf_2, zf_3, zf_4, zf_5, zf_6, zf_7, zf_8, zf_9, zf_10, zf_14, zf_15, zf_16, zf_18, zf_19, zf_20, zf_24, zf_30, zf_31, zf_32, zf_33, zf_99, zf_100, zf_160, zf_200, zf_287, zf_288, zf_300, zf_1000, zf_1023, zf_1024, zf_1600, zf_3840, zf_25600, zf_36000, zf_1000000, zf_1000000000, zf_2000000000, zf_11560, za_1, za_2, za_4, za_5, za_6, za_7, za_8, za_9, za_10, za_11, za_12, za_14, za_15, za_22, za_23, za_25, za_26, za_27, za_28, za_29, za_30, za_31, za_32, za_33, za_34, za_35, za_41, za_42, za_43, za_44, za_45, za_46, za_47, za_48, za_49, za_61, za_62, za_63, za_64, za_65, za_71, za_72, za_73, za_74, za_75, za_76, za_77, za_78, za_79, za_80, za_81, za_82, za_83, za_84, za_85, za_86, za_87, za_88, za_89, za_90, za_91, za_92, za_93, za_94, za_95, za_96, za_97, za_98, za_99, za_100, za_101, za_102, za_103, za_104, za_105, za_106, za_107, za_108, h5, e107, c1']
            rfl
        · rintro G _ _
          have b5 := hvt c
          show S_X8_guess_68 N rec (L_X8_guess_68 N rec G) m1 (nI (lgf w ls)) (nI most) (nI best) (nI c) (nI (vtf w ls c)) (nI ls.length) = _
          unfold S_X8_guess_68
          obtain ⟨V, hV⟩ : ∃ V, V = vtf w ls c := ⟨_, rfl⟩
          rw [← hV] at b5 ⊢
          unfold B_X8_guess_127 B_X8_guess_140
          by_cases c3 : most < V
          · rw [if_pos c3, if_pos c3]
            simp (disch := omega) only [zi_t, zi_f, bnd_t, zg_in, zx, nI_ltI, nI_leI, nI_eq, nI_add, pk_mul, pk_sub, mup_s, mup_c, mup_j, mrw_c, if_pos, if_neg, zm_1, zm_2, zm_3, zm_4, zm_5, zm_6, zm_7, zm_8, zm_9, zf_0, zf_1, zf_2, zf_3, zf_4, zf_5, zf_6, zf_7, zf_8, zf_9, zf_10, zf_14, zf_15, zf_16, zf_18, zf_19, zf_20, zf_24, zf_30, zf_31, zf_32, zf_33, zf_99, zf_100, zf_160, zf_200, zf_287, zf_288, zf_300, zf_1000, zf_1023, zf_1024, zf_1600, zf_3840, zf_25600, zf_36000, zf_1000000, zf_1000000000, zf_2000000000, zf_11560, za_1, za_2, za_4, za_5, za_6, za_7, za_8, za_9, za_10, za_11, za_12, za_14, za_15, za_22, za_23, za_25, za_26, za_27, za_28, za_29, za_30, za_31, za_32, za_33, za_34, za_35, za_41, za_42, za_43, za_44, za_45, za_46, za_47, za_48, za_49, za_61, za_62, za_63, za_64, za_65, za_71, za_72, za_73, za_74, za_75, za_76, za_77, za_78, za_79, za_80, za_81, za_82, za_83, za_84, za_85, za_86, za_87, za_88, za_89, za_90, za_91, za_92, za_93, za_94, za_95, za_96, za_97, za_98, za_99, za_100, za_101, za_102, za_103, za_104, za_105, za_106, za_107, za_108, h5]
          · rw [if_neg c3, if_neg c3]
            simp (disch := omega) only [zi_t, zi_f, bnd_t, zg_in, zx, nI_ltI, nI_leI, nI_eq, nI_add, pk_mul, pk_sub, mup_s, mup_c, mup_j, mrw_c, if_pos, if_neg, zm_1, zm_2, zm_3, zm_4, zm_5, zm_6, zm_7, zm_8, zm_9, zf_0, zf_1, zf_2, zf_3, zf_4, zf_5, zf_6, zf_7, zf_8, zf_9, zf_10, zf_14, zf_15, zf_16, zf_18, zf_19, zf_20, zf_24, zf_30, zf_31, zf_32, zf_33, zf_99, zf_100, zf_160, zf_200, zf_287, zf_288, zf_300, zf_1000, zf_1023, zf_1024, zf_1600, zf_3840, zf_25600, zf_36000, zf_1000000, zf_1000000000, zf_2000000000, zf_11560, za_1, za_2, za_4, za_5, za_6, za_7, za_8, za_9, za_10, za_11, za_12, za_14, za_15, za_22, za_23, za_25, za_26, za_27, za_28, za_29, za_30, za_31, za_32, za_33, za_34, za_35, za_41, za_42, za_43, za_44, za_45, za_46, za_47, za_48, za_49, za_61, za_62, za_63, za_64, za_65, za_71, za_72, za_73, za_74, za_75, za_76, za_77, za_78, za_79, za_80, za_81, za_82, za_83, za_84, za_85, za_86, za_87, za_88, za_89, za_90, za_91, za_92, za_93, za_94, za_95, za_96, za_97, za_98, za_99, za_100, za_101, za_102, za_103, za_104, za_105, za_106, za_107, za_108, h5]
      refine loopF (σ := Unit) (fun G _ c => L_X8_guess_55 N G m1 (nI (lgf w ls)) (nI (if c = 0 then 0 else vtf w ls (bvK (vtf w ls) (c - 1)))) (nI (bvK (vtf w ls) (c - 1))) (nI c)) 6 (fun _ _ => True) (fun o => o = some (nI (100 * lgf w ls + 10 * bvK (vtf w ls) 5 + min (vtf w ls (bvK (vtf w ls) 5)) 9), m1)) ?_ ?_ N 0 () (Nat.zero_le _) trivial (by omega)
      · rintro G c _ hc _
        refine Or.inl ⟨(), trivial, ?_⟩
        have hmo : (if c = 0 then 0 else vtf w ls (bvK (vtf w ls) (c - 1))) ≤ 30 := by
          split
          · omega
          · exact hvt _
        have b6 := bvK_le (vtf w ls) (c - 1)
        show S_X8_guess_55 N (L_X8_guess_55 N G) m1 (nI (lgf w ls)) (nI (if c = 0 then 0 else vtf w ls (bvK (vtf w ls) (c - 1)))) (nI (bvK (vtf w ls) (c - 1))) (nI c) = L_X8_guess_55 N G m1 (nI (lgf w ls)) (nI (if c + 1 = 0 then 0 else vtf w ls (bvK (vtf w ls) (c + 1 - 1)))) (nI (bvK (vtf w ls) (c + 1 - 1))) (nI (c + 1))
        unfold S_X8_guess_55
        rw [if_neg (by rw [show (6 : Int32) = nI 6 from rfl, nI_leI (by omega) (by omega)]; omega)]
        rw [show (0 : Int32) = nI 0 from rfl, hin68 _ _ c _ hmo hc]
        rw [Nat.add_sub_cancel, if_neg (by omega : ¬ c + 1 = 0)]
        cases c with
        | zero =>
          have e0 : bvK (vtf w ls) 0 = 0 := rfl
          rw [if_pos rfl]
          by_cases c4 : 0 < vtf w ls 0
          · rw [if_pos c4, if_pos c4, e0]
          · rw [if_neg c4, if_neg c4, e0, show vtf w ls 0 = 0 by omega]
        | succ c =>
          rw [if_neg (by omega : ¬ c + 1 = 0), Nat.add_sub_cancel]
          have e1 : bvK (vtf w ls) (c + 1) = if vtf w ls (bvK (vtf w ls) c) < vtf w ls (c + 1) then c + 1 else bvK (vtf w ls) c := rfl
          rw [e1]
          by_cases c4 : vtf w ls (bvK (vtf w ls) c) < vtf w ls (c + 1)
          · rw [if_pos c4, if_pos c4]
          · rw [if_neg c4, if_neg c4]
      · rintro G _ _
        show S_X8_guess_55 N (L_X8_guess_55 N G) m1 (nI (lgf w ls)) (nI (vtf w ls (bvK (vtf w ls) 5))) (nI (bvK (vtf w ls) 5)) (nI 6) = _
        unfold S_X8_guess_55 P_X8_lesser
        have b6 := hvt (bvK (vtf w ls) 5)
        obtain ⟨V, hV⟩ : ∃ V, V = vtf w ls (bvK (vtf w ls) 5) := ⟨_, rfl⟩
        rw [← hV] at b6 ⊢
        by_cases c9 : 9 ≤ V
        · rw [show min V 9 = 9 by omega]
          simp (disch := omega) only [zi_t, zi_f, bnd_t, zg_in, zx, nI_ltI, nI_leI, nI_eq, nI_add, pk_mul, pk_sub, mup_s, mup_c, mup_j, mrw_c, if_pos, if_neg, zm_1, zm_2, zm_3, zm_4, zm_5, zm_6, zm_7, zm_8, zm_9, zf_0, zf_1, zf_2, zf_3, zf_4, zf_5, zf_6, zf_7, zf_8, zf_9, zf_10, zf_14, zf_15, zf_16, zf_18, zf_19, zf_20, zf_24, zf_30, zf_31, zf_32, zf_33, zf_99, zf_100, zf_160, zf_200, zf_287, zf_288, zf_300, zf_1000, zf_1023, zf_1024, zf_1600, zf_3840, zf_25600, zf_36000, zf_1000000, zf_1000000000, zf_2000000000, zf_11560, za_1, za_2, za_4, za_5, za_6, za_7, za_8, za_9, za_10, za_11, za_12, za_14, za_15, za_22, za_23, za_25, za_26, za_27, za_28, za_29, za_30, za_31, za_32, za_33, za_34, za_35, za_41, za_42, za_43, za_44, za_45, za_46, za_47, za_48, za_49, za_61, za_62, za_63, za_64, za_65, za_71, za_72, za_73, za_74, za_75, za_76, za_77, za_78, za_79, za_80, za_81, za_82, za_83, za_84, za_85, za_86, za_87, za_88, za_89, za_90, za_91, za_92, za_93, za_94, za_95, za_96, za_97, za_98, za_99, za_100, za_101, za_102, za_103, za_104, za_105, za_106, za_107, za_108]
        · rw [show min V 9 = V by omega]
          simp (disch := omega) only [zi_t, zi_f, bnd_t, zg_in, zx, nI_ltI, nI_leI, nI_eq, nI_add, pk_mul, pk_sub, mup_s, mup_c, mup_j, mrw_c, if_pos, if_neg, zm_1, zm_2, zm_3, zm_4, zm_5, zm_6, zm_7, zm_8, zm_9, zf_0, zf_1, zf_2, zf_3, zf_4, zf_5, zf_6, zf_7, zf_8, zf_9, zf_10, zf_14, zf_15, zf_16, zf_18, zf_19, zf_20, zf_24, zf_30, zf_31, zf_32, zf_33, zf_99, zf_100, zf_160, zf_200, zf_287, zf_288, zf_300, zf_1000, zf_1023, zf_1024, zf_1600, zf_3840, zf_25600, zf_36000, zf_1000000, zf_1000000000, zf_2000000000, zf_11560, za_1, za_2, za_4, za_5, za_6, za_7, za_8, za_9, za_10, za_11, za_12, za_14, za_15, za_22, za_23, za_25, za_26, za_27, za_28, za_29, za_30, za_31, za_32, za_33, za_34, za_35, za_41, za_42, za_43, za_44, za_45, za_46, za_47, za_48, za_49, za_61, za_62, za_63, za_64, za_65, za_71, za_72, za_73, za_74, za_75, za_76, za_77, za_78, za_79, za_80, za_81, za_82, za_83, za_84, za_85, za_86, za_87, za_88, za_89, za_90, za_91, za_92, za_93, za_94, za_95, za_96, za_97, za_98, za_99, za_100, za_101, za_102, za_103, za_104, za_105, za_106, za_107, za_108]
/-- guess throws nothing -/
theorem sim_guess {N : Nat} {m : Mem} {Ms : List Ma} {w : List Nat} {ls : Ls} (hN : 40000 < N) (hV : InV Ms w ls) (hC : InC m Ms w ls) (hM : InM m Ms w ls) : ∃ m1 m2, F_X7_guess N m = some (gsR w ls, m1) ∧ F_X8_guess N m1 = some (gsR w ls, m2) ∧ InC m2 Ms w ls ∧ InM m2 Ms w ls := by
  obtain ⟨m1, g1, g2⟩ := cl_guess hN hV hC
  have hM1 : InM m1 Ms w ls := hM.cg (fun k hk => g2 k (by omega)) (g2.at (by omega) _) (g2.at (by omega) _) (g2.at (by omega) _)
  have hC1 : InC m1 Ms w ls := hC.cg (fun k hk => g2 k (by omega))
  exact ⟨m1, mup m1 70 0 (nI 0), g1, mo_guess hN hV hM1, hC1.cg (fun k hk => mup_r (by omega)), hM1.up0 (nI 0)⟩
