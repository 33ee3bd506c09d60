/-! guessing -/
def cmK (W : Nat → Nat) (lw : Nat) (P : Nat → Nat) (lp : Nat) : Nat → Nat → Nat
  | 0, n => n
  | d + 1, n => if n < lw ∧ n < lp ∧ P (lp - 1 - n) = W (lw - 1 - n) then cmK W lw P lp d (n + 1) else n
theorem cmK_s {W P : Nat → Nat} {lw lp d n : Nat} : cmK W lw P lp (d + 1) n = if n < lw ∧ n < lp ∧ P (lp - 1 - n) = W (lw - 1 - n) then cmK W lw P lp d (n + 1) else n := rfl
def cmv (w : List Nat) (p : List Nat) : Nat := cmK (fun i => w.getD i 0) w.length (fun i => p.getD i 0) p.length 9 0
theorem cmK_le {W P : Nat → Nat} {lw lp : Nat} : ∀ d n, n ≤ lw → cmK W lw P lp d n ≤ lw
  | 0, n, h => h
  | d + 1, n, h => by
    rw [cmK_s]
    split
    · rename_i hc; exact cmK_le d (n + 1) hc.1
    · exact h
theorem cmv_le (w p : List Nat) : cmv w p ≤ w.length := cmK_le 9 0 (Nat.zero_le _)
theorem cl_ending {N i : Nat} {w p : List Nat} {m : Mem} (hN : 40000 < N) (h2 : ∀ j x, w[j]? = some x → m 1 j = nI x) (h62 : m 62 i = nI p.length) (h61 : ∀ j x, p[j]? = some x → m 61 (8 * i + j) = nI x) (hw : w.length ≤ 8) (hp : p.length ≤ 8) (hl8 : ∀ x, x ∈ w → x < 8) (hp8 : ∀ x, x ∈ p → x < 8) (hi : i < 30) : F_X2_endingOf N m (nI i) (nI w.length) = some (nI (cmv w p), m) := by
  have key : ∀ (x5 : Int32) (mn : Nat), mn = min w.length p.length → (0 < p.length → x5 = nI (8 * i + p.length - 1)) → L_X2_endingOf_30 N N m (nI w.length) (nI mn) x5 (nI 0) = some (nI (cmv w p), m) := by
    intro x5 mn hmn hx5
    refine loopF (σ := Unit) (fun F _ n => L_X2_endingOf_30 N F m (nI w.length) (nI mn) x5 (nI n)) 9 (fun n _ => n ≤ mn ∧ cmK (fun i => w.getD i 0) w.length (fun i => p.getD i 0) p.length (9 - n) n = cmv w p) (fun o => o = some (nI (cmv w p), m)) ?_ ?_ N 0 () (Nat.zero_le _) ⟨Nat.zero_le _, rfl⟩ (by omega)
    · rintro F n _ hn ⟨k1, k2⟩
      obtain ⟨d, hd⟩ : ∃ d, 9 - n = d + 1 := ⟨9 - n - 1, by omega⟩
      rw [hd, cmK_s] at k2
      have hd2 : 9 - (n + 1) = d := by omega
      show (∃ s' : Unit, _ ∧ S_X2_endingOf_30 N (L_X2_endingOf_30 N F) m (nI w.length) (nI mn) x5 (nI n) = _) ∨ S_X2_endingOf_30 N (L_X2_endingOf_30 N F) m (nI w.length) (nI mn) x5 (nI n) = _
      unfold S_X2_endingOf_30 B_X2_endingOf_64
      by_cases c1 : n < mn
      · have e1 := h2 (w.length - 1 - n) _ (wd_at (by omega : w.length - 1 - n < w.length))
        have e2 := h61 (p.length - 1 - n) _ (wd_at (by omega : p.length - 1 - n < p.length))
        have b1 := wd_lt hl8 (w.length - 1 - n)
        have b2 := wd_lt hp8 (p.length - 1 - n)
        have e3 : 8 * i + p.length - 1 - n = 8 * i + (p.length - 1 - n) := by omega
        rw [hx5 (by omega)]
        by_cases c2 : p.getD (p.length - 1 - n) 0 = w.getD (w.length - 1 - n) 0
        · rw [if_pos ⟨by omega, by omega, c2⟩] at k2
          left
          refine ⟨(), ⟨by omega, by rw [hd2]; exact k2⟩, ?_⟩
          simp (disch := omega) only [zi_t, zi_f, bnd_t, zg_in, zx, nI_ltI, nI_leI, nI_eq, nI_add, pk_mul, pk_sub, mup_s, mup_c, mup_j, mrw_c, if_pos, if_neg, zm_1, zm_2, zm_3, zm_4, zm_5, zm_6, zm_7, zm_8, zm_9, zf_0, zf_1, zf_2, zf_3, zf_4, zf_5, zf_6, zf_7, zf_8, zf_9, zf_10, zf_14, zf_15, zf_16, zf_18, zf_19, zf_20, zf_24, zf_30, zf_31, zf_32, zf_33, zf_99, zf_100, zf_160, zf_200, zf_287, zf_288, zf_300, zf_1000, zf_1023, zf_1024, zf_1600, zf_3840, zf_25600, zf_36000, zf_1000000, zf_1000000000, zf_2000000000, zf_11560, za_1, za_2, za_4, za_5, za_6, za_7, za_8, za_9, za_10, za_11, za_12, za_14, za_15, za_22, za_23, za_25, za_26, za_27, za_28, za_29, za_30, za_31, za_32, za_33, za_34, za_35, za_41, za_42, za_43, za_44, za_45, za_46, za_47, za_48, za_49, za_61, za_62, za_63, za_64, za_65, za_71, za_72, za_73, za_74, za_75, za_76, za_77, za_78, za_79, za_80, za_81, za_82, za_83, za_84, za_85, za_86, za_87, za_88, za_89, za_90, za_91, za_92, za_93, za_94, za_95, za_96, za_97, za_98, za_99, za_100, za_101, za_102, za_103, za_104, za_105, za_106, za_107, za_108, e1, e2, e3]
        · rw [if_neg (fun h => c2 h.2.2)] at k2
          right
          simp (disch := omega) only [zi_t, zi_f, bnd_t, zg_in, zx, nI_ltI, nI_leI, nI_eq, nI_add, pk_mul, pk_sub, mup_s, mup_c, mup_j, mrw_c, if_pos, if_neg, zm_1, zm_2, zm_3, zm_4, zm_5, zm_6, zm_7, zm_8, zm_9, zf_0, zf_1, zf_2, zf_3, zf_4, zf_5, zf_6, zf_7, zf_8, zf_9, zf_10, zf_14, zf_15, zf_16, zf_18, zf_19, zf_20, zf_24, zf_30, zf_31, zf_32, zf_33, zf_99, zf_100, zf_160, zf_200, zf_287, zf_288, zf_300, zf_1000, zf_1023, zf_1024, zf_1600, zf_3840, zf_25600, zf_36000, zf_1000000, zf_1000000000, zf_2000000000, zf_11560, za_1, za_2, za_4, za_5, za_6, za_7, za_8, za_9, za_10, za_11, za_12, za_14, za_15, za_22, za_23, za_25, za_26, za_27, za_28, za_29, za_30, za_31, za_32, za_33, za_34, za_35, za_41, za_42, za_43, za_44, za_45, za_46, za_47, za_48, za_49, za_61, za_62, za_63, za_64, za_65, za_71, za_72, za_73, za_74, za_75, za_76, za_77, za_78, za_79, za_80, za_81, za_82, za_83, za_84, za_85, za_86, za_87, za_88, za_89, za_90, za_91, za_92, za_93, za_94, za_95, za_96, za_97, za_98, za_99, za_100, za_101, za_102, za_103, za_104, za_105, za_106, za_107, za_108, e1, e2, e3]
          rw [k2]
      · rw [if_neg (by omega)] at k2
        right
        simp (disch := omega) only [zi_t, zi_f, bnd_t, zg_in, zx, nI_ltI, nI_leI, nI_eq, nI_add, pk_mul, pk_sub, mup_s, mup_c, mup_j, mrw_c, if_pos, if_neg, zm_1, zm_2, zm_3, zm_4, zm_5, zm_6, zm_7, zm_8, zm_9, zf_0, zf_1, zf_2, zf_3, zf_4, zf_5, zf_6, zf_7, zf_8, zf_9, zf_10, zf_14, zf_15, zf_16, zf_18, zf_19, zf_20, zf_24, zf_30, zf_31, zf_32, zf_33, zf_99, zf_100, zf_160, zf_200, zf_287, zf_288, zf_300, zf_1000, zf_1023, zf_1024, zf_1600, zf_3840, zf_25600, zf_36000, zf_1000000, zf_1000000000, zf_2000000000, zf_11560, za_1, za_2, za_4, za_5, za_6, za_7, za_8, za_9, za_10, za_11, za_12, za_14, za_15, za_22, za_23, za_25, za_26, za_27, za_28, za_29, za_30, za_31, za_32, za_33, za_34, za_35, za_41, za_42, za_43, za_44, za_45, za_46, za_47, za_48, za_49, za_61, za_62, za_63, za_64, za_65, za_71, za_72, za_73, za_74, za_75, za_76, za_77, za_78, za_79, za_80, za_81, za_82, za_83, za_84, za_85, za_86, za_87, za_88, za_89, za_90, za_91, za_92, za_93, za_94, za_95, za_96, za_97, za_98, za_99, za_100, za_101, za_102, za_103, za_104, za_105, za_106, za_107, za_108]
        rw [k2]
    · rintro F _ ⟨k1, k2⟩
      omega
  unfold F_X2_endingOf
  by_cases c : p.length < w.length
  · simp (disch := omega) only [zi_t, zi_f, bnd_t, zg_in, zx, nI_ltI, nI_leI, nI_eq, nI_add, pk_mul, pk_sub, mup_s, mup_c, mup_j, mrw_c, if_pos, if_neg, zm_1, zm_2, zm_3, zm_4, zm_5, zm_6, zm_7, zm_8, zm_9, zf_0, zf_1, zf_2, zf_3, zf_4, zf_5, zf_6, zf_7, zf_8, zf_9, zf_10, zf_14, zf_15, zf_16, zf_18, zf_19, zf_20, zf_24, zf_30, zf_31, zf_32, zf_33, zf_99, zf_100, zf_160, zf_200, zf_287, zf_288, zf_300, zf_1000, zf_1023, zf_1024, zf_1600, zf_3840, zf_25600, zf_36000, zf_1000000, zf_1000000000, zf_2000000000, zf_11560, za_1, za_2, za_4, za_5, za_6, za_7, za_8, za_9, za_10, za_11, za_12, za_14, za_15, za_22, za_23, za_25, za_26, za_27, za_28, za_29, za_30, za_31, za_32, za_33, za_34, za_35, za_41, za_42, za_43, za_44, za_45, za_46, za_47, za_48, za_49, za_61, za_62, za_63, za_64, za_65, za_71, za_72, za_73, za_74, za_75, za_76, za_77, za_78, za_79, za_80, za_81, za_82, za_83, za_84, za_85, za_86, za_87, za_88, za_89, za_90, za_91, za_92, za_93, za_94, za_95, za_96, za_97, za_98, za_99, za_100, za_101, za_102, za_103, za_104, za_105, za_106, za_107, za_108, h62]
    refine key _ p.length (by omega) (fun h => ?_)
    rw [pk_sub (by omega)]
    congr 1
    omega
  · simp (disch := omega) only [zi_t, zi_f, bnd_t, zg_in, zx, nI_ltI, nI_leI, nI_eq, nI_add, pk_mul, pk_sub, mup_s, mup_c, mup_j, mrw_c, if_pos, if_neg, zm_1, zm_2, zm_3, zm_4, zm_5, zm_6, zm_7, zm_8, zm_9, zf_0, zf_1, zf_2, zf_3, zf_4, zf_5, zf_6, zf_7, zf_8, zf_9, zf_10, zf_14, zf_15, zf_16, zf_18, zf_19, zf_20, zf_24, zf_30, zf_31, zf_32, zf_33, zf_99, zf_100, zf_160, zf_200, zf_287, zf_288, zf_300, zf_1000, zf_1023, zf_1024, zf_1600, zf_3840, zf_25600, zf_36000, zf_1000000, zf_1000000000, zf_2000000000, zf_11560, za_1, za_2, za_4, za_5, za_6, za_7, za_8, za_9, za_10, za_11, za_12, za_14, za_15, za_22, za_23, za_25, za_26, za_27, za_28, za_29, za_30, za_31, za_32, za_33, za_34, za_35, za_41, za_42, za_43, za_44, za_45, za_46, za_47, za_48, za_49, za_61, za_62, za_63, za_64, za_65, za_71, za_72, za_73, za_74, za_75, za_76, za_77, za_78, za_79, za_80, za_81, za_82, za_83, za_84, za_85, za_86, za_87, za_88, za_89, za_90, za_91, za_92, za_93, za_94, za_95, za_96, za_97, za_98, za_99, za_100, za_101, za_102, za_103, za_104, za_105, za_106, za_107, za_108, h62]
    refine key _ w.length (by omega) (fun h => ?_)
    rw [pk_sub (by omega)]
    congr 1
    omega
theorem mo_common {N i : Nat} {w p : List Nat} {m : Mem} (hN : 40000 < N) (h1 : m 70 2 = nI w.length) (h2 : ∀ j x, w[j]? = some x → m 71 j = nI x) (h62 : m 106 i = nI p.length) (h61 : ∀ j x, p[j]? = some x → m 105 (8 * i + j) = nI x) (hw : w.length ≤ 8) (hp : p.length ≤ 8) (hl8 : ∀ x, x ∈ w → x < 8) (hp8 : ∀ x, x ∈ p → x < 8) (hi : i < 30) : F_X8_inCommon N m (nI i) = some (nI (cmv w p), m) := by
  unfold F_X8_inCommon
  refine loopF (σ := Unit) (fun F _ n => L_X8_inCommon_2 N F m (nI i) (nI n)) 9 (fun n _ => n ≤ min w.length p.length ∧ cmK (fun i => w.getD i 0) w.length (fun i => p.getD i 0) p.length (9 - n) n = cmv w p) (fun o => o = some (nI (cmv w p), m)) ?_ ?_ N 0 () (Nat.zero_le _) ⟨Nat.zero_le _, rfl⟩ (by omega)
  · rintro F n _ hn ⟨k1, k2⟩
    obtain ⟨d, hd⟩ : ∃ d, 9 - n = d + 1 := ⟨9 - n - 1, by omega⟩
    rw [hd, cmK_s] at k2
    have hd2 : 9 - (n + 1) = d := by omega
    show (∃ s' : Unit, _ ∧ S_X8_inCommon_2 N (L_X8_inCommon_2 N F) m (nI i) (nI n) = _) ∨ S_X8_inCommon_2 N (L_X8_inCommon_2 N F) m (nI i) (nI n) = _
    unfold S_X8_inCommon_2 B_X8_inCommon_62
    by_cases c0 : n < w.length
    · by_cases c1 : n < p.length
      · have e1 := h2 (w.length - 1 - n) _ (wd_at (by omega : w.length - 1 - n < w.length))
        have e2 := h61 (p.length - 1 - n) _ (wd_at (by omega : p.length - 1 - n < p.length))
        have b1 := wd_lt hl8 (w.length - 1 - n)
        have b2 := wd_lt hp8 (p.length - 1 - n)
        have e3 : 8 * i + p.length - 1 - n = 8 * i + (p.length - 1 - n) := by omega
        by_cases c2 : p.getD (p.length - 1 - n) 0 = w.getD (w.length - 1 - n) 0
        · rw [if_pos ⟨by omega, by omega, c2⟩] at k2
          left
          refine ⟨(), ⟨by omega, by rw [hd2]; exact k2⟩, ?_⟩
          simp (disch := omega) only [zi_t, zi_f, bnd_t, zg_in, zx, nI_ltI, nI_leI, nI_eq, nI_add, pk_mul, pk_sub, mup_s, mup_c, mup_j, mrw_c, if_pos, if_neg, zm_1, zm_2, zm_3, zm_4, zm_5, zm_6, zm_7, zm_8, zm_9, zf_0, zf_1, zf_2, zf_3, zf_4, zf_5, zf_6, zf_7, zf_8, zf_9, zf_10, zf_14, zf_15, zf_16, zf_18, zf_19, zf_20, zf_24, zf_30, zf_31, zf_32, zf_33, zf_99, zf_100, zf_160, zf_200, zf_287, zf_288, zf_300, zf_1000, zf_1023, zf_1024, zf_1600, zf_3840, zf_25600, zf_36000, zf_1000000, zf_1000000000, zf_2000000000, zf_11560, za_1, za_2, za_4, za_5, za_6, za_7, za_8, za_9, za_10, za_11, za_12, za_14, za_15, za_22, za_23, za_25, za_26, za_27, za_28, za_29, za_30, za_31, za_32, za_33, za_34, za_35, za_41, za_42, za_43, za_44, za_45, za_46, za_47, za_48, za_49, za_61, za_62, za_63, za_64, za_65, za_71, za_72, za_73, za_74, za_75, za_76, za_77, za_78, za_79, za_80, za_81, za_82, za_83, za_84, za_85, za_86, za_87, za_88, za_89, za_90, za_91, za_92, za_93, za_94, za_95, za_96, za_97, za_98, za_99, za_100, za_101, za_102, za_103, za_104, za_105, za_106, za_107, za_108, h1, h62, e1, e2, e3]
        · rw [if_neg (fun h => c2 h.2.2)] at k2
          right
          simp (disch := omega) only [zi_t, zi_f, bnd_t, zg_in, zx, nI_ltI, nI_leI, nI_eq, nI_add, pk_mul, pk_sub, mup_s, mup_c, mup_j, mrw_c, if_pos, if_neg, zm_1, zm_2, zm_3, zm_4, zm_5, zm_6, zm_7, zm_8, zm_9, zf_0, zf_1, zf_2, zf_3, zf_4, zf_5, zf_6, zf_7, zf_8, zf_9, zf_10, zf_14, zf_15, zf_16, zf_18, zf_19, zf_20, zf_24, zf_30, zf_31, zf_32, zf_33, zf_99, zf_100, zf_160, zf_200, zf_287, zf_288, zf_300, zf_1000, zf_1023, zf_1024, zf_1600, zf_3840, zf_25600, zf_36000, zf_1000000, zf_1000000000, zf_2000000000, zf_11560, za_1, za_2, za_4, za_5, za_6, za_7, za_8, za_9, za_10, za_11, za_12, za_14, za_15, za_22, za_23, za_25, za_26, za_27, za_28, za_29, za_30, za_31, za_32, za_33, za_34, za_35, za_41, za_42, za_43, za_44, za_45, za_46, za_47, za_48, za_49, za_61, za_62, za_63, za_64, za_65, za_71, za_72, za_73, za_74, za_75, za_76, za_77, za_78, za_79, za_80, za_81, za_82, za_83, za_84, za_85, za_86, za_87, za_88, za_89, za_90, za_91, za_92, za_93, za_94, za_95, za_96, za_97, za_98, za_99, za_100, za_101, za_102, za_103, za_104, za_105, za_106, za_107, za_108, h1, h62, e1, e2, e3]
          rw [k2]
      · rw [if_neg (by omega)] at k2
        right
        simp (disch := omega) only [zi_t, zi_f, bnd_t, zg_in, zx, nI_ltI, nI_leI, nI_eq, nI_add, pk_mul, pk_sub, mup_s, mup_c, mup_j, mrw_c, if_pos, if_neg, zm_1, zm_2, zm_3, zm_4, zm_5, zm_6, zm_7, zm_8, zm_9, zf_0, zf_1, zf_2, zf_3, zf_4, zf_5, zf_6, zf_7, zf_8, zf_9, zf_10, zf_14, zf_15, zf_16, zf_18, zf_19, zf_20, zf_24, zf_30, zf_31, zf_32, zf_33, zf_99, zf_100, zf_160, zf_200, zf_287, zf_288, zf_300, zf_1000, zf_1023, zf_1024, zf_1600, zf_3840, zf_25600, zf_36000, zf_1000000, zf_1000000000, zf_2000000000, zf_11560, za_1, za_2, za_4, za_5, za_6, za_7, za_8, za_9, za_10, za_11, za_12, za_14, za_15, za_22, za_23, za_25, za_26, za_27, za_28, za_29, za_30, za_31, za_32, za_33, za_34, za_35, za_41, za_42, za_43, za_44, za_45, za_46, za_47, za_48, za_49, za_61, za_62, za_63, za_64, za_65, za_71, za_72, za_73, za_74, za_75, za_76, za_77, za_78, za_79, za_80, za_81, za_82, za_83, za_84, za_85, za_86, za_87, za_88, za_89, za_90, za_91, za_92, za_93, za_94, za_95, za_96, za_97, za_98, za_99, za_100, za_101, za_102, za_103, za_104, za_105, za_106, za_107, za_108, h1, h62]
        rw [k2]
    · rw [if_neg (by omega)] at k2
      right
      simp (disch := omega) only [zi_t, zi_f, bnd_t, zg_in, zx, nI_ltI, nI_leI, nI_eq, nI_add, pk_mul, pk_sub, mup_s, mup_c, mup_j, mrw_c, if_pos, if_neg, zm_1, zm_2, zm_3, zm_4, zm_5, zm_6, zm_7, zm_8, zm_9, zf_0, zf_1, zf_2, zf_3, zf_4, zf_5, zf_6, zf_7, zf_8, zf_9, zf_10, zf_14, zf_15, zf_16, zf_18, zf_19, zf_20, zf_24, zf_30, zf_31, zf_32, zf_33, zf_99, zf_100, zf_160, zf_200, zf_287, zf_288, zf_300, zf_1000, zf_1023, zf_1024, zf_1600, zf_3840, zf_25600, zf_36000, zf_1000000, zf_1000000000, zf_2000000000, zf_11560, za_1, za_2, za_4, za_5, za_6, za_7, za_8, za_9, za_10, za_11, za_12, za_14, za_15, za_22, za_23, za_25, za_26, za_27, za_28, za_29, za_30, za_31, za_32, za_33, za_34, za_35, za_41, za_42, za_43, za_44, za_45, za_46, za_47, za_48, za_49, za_61, za_62, za_63, za_64, za_65, za_71, za_72, za_73, za_74, za_75, za_76, za_77, za_78, za_79, za_80, za_81, za_82, za_83, za_84, za_85, za_86, za_87, za_88, za_89, za_90, za_91, za_92, za_93, za_94, za_95, za_96, za_97, za_98, za_99, za_100, za_101, za_102, za_103, za_104, za_105, za_106, za_107, za_108, h1]
      rw [k2]
  · rintro F _ ⟨k1, k2⟩
    omega
/-- the longest -/
def mxc (c : Nat → Nat) : Nat → Nat
  | 0 => 0
  | k + 1 => if mxc c k < c k then c k else mxc c k
theorem mxc_le {c : Nat → Nat} {b : Nat} (h : ∀ k, c k ≤ b) : ∀ k, mxc c k ≤ b
  | 0 => Nat.zero_le _
  | k + 1 => by
    rw [mxc]
    split
    · exact h k
    · exact mxc_le h k
/-- the first of those that are voted most -/
def bvK (v : Nat → Nat) : Nat → Nat
  | 0 => 0
  | k + 1 => if v (bvK v k) < v (k + 1) then k + 1 else bvK v k
theorem bvK_le (v : Nat → Nat) : ∀ k, bvK v k ≤ k
  | 0 => Nat.le_refl _
  | k + 1 => by
    rw [bvK]
    split
    · exact Nat.le_refl _
    · have := bvK_le v k; omega
abbrev lsw (ls : Ls) (j : Nat) : List Nat := (ls.getD j ([], 0)).1
abbrev lsk (ls : Ls) (j : Nat) : Nat := (ls.getD j ([], 0)).2
theorem ls_at {ls : Ls} {k : Nat} (h : k < ls.length) : ls[k]? = some (lsw ls k, lsk ls k) := by
  unfold lsw lsk
  rw [List.getD_eq_getElem?_getD, List.getElem?_eq_getElem h]; rfl
abbrev cmf (w : List Nat) (ls : Ls) (j : Nat) : Nat := cmv w (lsw ls j)
abbrev lgf (w : List Nat) (ls : Ls) : Nat := mxc (cmf w ls) ls.length
def vtK (w : List Nat) (ls : Ls) (c k : Nat) : Nat := cnt (fun j => decide (cmf w ls j = lgf w ls) && decide (lsk ls j = c)) k
abbrev vtf (w : List Nat) (ls : Ls) (c : Nat) : Nat := vtK w ls c ls.length
def gsR (w : List Nat) (ls : Ls) : Int32 := if lgf w ls = 0 then nM else nI (100 * lgf w ls + 10 * bvK (vtf w ls) 5 + min (vtf w ls (bvK (vtf w ls) 5)) 9)
theorem vtK_s {w : List Nat} {ls : Ls} {c k : Nat} : vtK w ls c (k + 1) = vtK w ls c k + if (decide (cmf w ls k = lgf w ls) && decide (lsk ls k = c)) = true then 1 else 0 := rfl
theorem vtK_le (w : List Nat) (ls : Ls) (c k : Nat) : vtK w ls c k ≤ k := cnt_le _ k
theorem cl_votes {N : Nat} {w : List Nat} {ls : Ls} {m : Mem} (hN : 40000 < N) (hl : ls.length ≤ 30) (hlg : lgf w ls ≤ 8) (h60 : m 60 5 = nI ls.length) (h63 : ∀ k, k < ls.length → m 63 k = nI (lsk ls k)) (hk6 : ∀ k, k < ls.length → lsk ls k < 6) (h64 : ∀ k, k < ls.length → m 64 k = nI (cmf w ls k)) (hcm : ∀ k, cmf w ls k ≤ 8) :
    ∃ m', F_X2_countVotes N m (nI (lgf w ls)) = some m' ∧ (∀ c, c < 6 → m' 65 c = nI (vtf w ls c)) ∧ Off 65 66 m m' := by
  unfold F_X2_countVotes
  refine loopF (fun F (m : Mem) c => L_X2_countVotes_2 N F m (nI (lgf w ls)) (nI c)) 6 (fun c m' => (∀ j, j < c → m' 65 j = nI 0) ∧ Off 65 66 m m') (fun o => ∃ m', o = some m' ∧ (∀ c, c < 6 → m' 65 c = nI (vtf w ls c)) ∧ Off 65 66 m m') ?_ ?_ N 0 m (Nat.zero_le _) ⟨fun j hj => absurd hj (Nat.not_lt_zero _), Off.rf⟩ (by omega)
  · rintro F c m1 hc ⟨k1, k2⟩
    refine Or.inl ⟨mup m1 65 c (nI 0), ⟨fun j hj => ?_, k2.up (by omega) (by omega)⟩, ?_⟩
    · rw [mup_if]
      split
      · rfl
      · exact k1 j (by omega)
    · show S_X2_countVotes_2 N (L_X2_countVotes_2 N F) m1 (nI (lgf w ls)) (nI c) = _
      unfold S_X2_countVotes_2
      simp (disch := omega) only [zi_t, zi_f, bnd_t, zg_in, zx, nI_ltI, nI_leI, nI_eq, nI_add, pk_mul, pk_sub, mup_s, mup_c, mup_j, mrw_c, if_pos, if_neg, zm_1, zm_2, zm_3, zm_4, zm_5, zm_6, zm_7, zm_8, zm_9, zf_0, zf_1, zf_2, zf_3, zf_4, zf_5, zf_6, zf_7, zf_8, zf_9, zf_10, zf_14, zf_15, zf_16, zf_18, zf_19, zf_20, zf_24, zf_30, zf_31, zf_32, zf_33, zf_99, zf_100, zf_160, zf_200, zf_287, zf_288, zf_300, zf_1000, zf_1023, zf_1024, zf_1600, zf_3840, zf_25600, zf_36000, zf_1000000, zf_1000000000, zf_2000000000, zf_11560, za_1, za_2, za_4, za_5, za_6, za_7, za_8, za_9, za_10, za_11, za_12, za_14, za_15, za_22, za_23, za_25, za_26, za_27, za_28, za_29, za_30, za_31, za_32, za_33, za_34, za_35, za_41, za_42, za_43, za_44, za_45, za_46, za_47, za_48, za_49, za_61, za_62, za_63, za_64, za_65, za_71, za_72, za_73, za_74, za_75, za_76, za_77, za_78, za_79, za_80, za_81, za_82, za_83, za_84, za_85, za_86, za_87, za_88, za_89, za_90, za_91, za_92, za_93, za_94, za_95, za_96, za_97, za_98, za_99, za_100, za_101, za_102, za_103, za_104, za_105, za_106, za_107, za_108]
  · rintro F m1 ⟨k1, k2⟩
    show ∃ m', S_X2_countVotes_2 N (L_X2_countVotes_2 N F) m1 (nI (lgf w ls)) (nI 6) = _ ∧ _
    unfold S_X2_countVotes_2
    simp (disch := omega) only [zi_t, zi_f, bnd_t, zg_in, zx, nI_ltI, nI_leI, nI_eq, nI_add, pk_mul, pk_sub, mup_s, mup_c, mup_j, mrw_c, if_pos, if_neg, zm_1, zm_2, zm_3, zm_4, zm_5, zm_6, zm_7, zm_8, zm_9, zf_0, zf_1, zf_2, zf_3, zf_4, zf_5, zf_6, zf_7, zf_8, zf_9, zf_10, zf_14, zf_15, zf_16, zf_18, zf_19, zf_20, zf_24, zf_30, zf_31, zf_32, zf_33, zf_99, zf_100, zf_160, zf_200, zf_287, zf_288, zf_300, zf_1000, zf_1023, zf_1024, zf_1600, zf_3840, zf_25600, zf_36000, zf_1000000, zf_1000000000, zf_2000000000, zf_11560, za_1, za_2, za_4, za_5, za_6, za_7, za_8, za_9, za_10, za_11, za_12, za_14, za_15, za_22, za_23, za_25, za_26, za_27, za_28, za_29, za_30, za_31, za_32, za_33, za_34, za_35, za_41, za_42, za_43, za_44, za_45, za_46, za_47, za_48, za_49, za_61, za_62, za_63, za_64, za_65, za_71, za_72, za_73, za_74, za_75, za_76, za_77, za_78, za_79, za_80, za_81, za_82, za_83, za_84, za_85, za_86, za_87, za_88, za_89, za_90, za_91, za_92, za_93, za_94, za_95, za_96, za_97, za_98, za_99, za_100, za_101, za_102, za_103, za_104, za_105, za_106, za_107, za_108]
    refine loopF (fun F (m : Mem) k => L_X2_countVotes_23 N F m (nI (lgf w ls)) (nI k)) ls.length (fun k m' => (∀ c, c < 6 → m' 65 c = nI (vtK w ls c k)) ∧ Off 65 66 m m') (fun o => ∃ m', o = some m' ∧ (∀ c, c < 6 → m' 65 c = nI (vtf w ls c)) ∧ Off 65 66 m m') ?_ ?_ N 0 m1 (Nat.zero_le _) ⟨k1, k2⟩ (by omega)
    · rintro F k m2 hk ⟨g1, g2⟩
      have e60 := (g2.at (k := 60) (by omega) 5).trans h60
      have e63 := (g2.at (k := 63) (by omega) k).trans (h63 k hk)
      have e64 := (g2.at (k := 64) (by omega) k).trans (h64 k hk)
      have b1 := hk6 k hk
      have b2 := hcm k
      have e65 := g1 _ b1
      by_cases c1 : cmf w ls k = lgf w ls
      · refine Or.inl ⟨mup m2 65 (lsk ls k) (nI (vtK w ls (lsk ls k) k + 1)), ⟨fun c hc => ?_, g2.up (by omega) (by omega)⟩, ?_⟩
        · rw [mup_if, vtK_s, decide_eq_true c1, Bool.true_and]
          by_cases c2 : lsk ls k = c
          · rw [if_pos c2.symm, decide_eq_true c2, if_pos rfl, c2]
          · rw [if_neg (fun h => c2 h.symm), decide_eq_false c2, if_neg (by simp)]
            exact g1 c hc
        · show S_X2_countVotes_23 N (L_X2_countVotes_23 N F) m2 (nI (lgf w ls)) (nI k) = _
          unfold S_X2_countVotes_23 B_X2_countVotes_56
          have c1' : nI (cmf w ls k) = nI (lgf w ls) := by rw [c1]
          simp (disch := omega) only [zi_t, zi_f, bnd_t, zg_in, zx, nI_ltI, nI_leI, nI_eq, nI_add, pk_mul, pk_sub, mup_s, mup_c, mup_j, mrw_c, if_pos, if_neg, zm_1, zm_2, zm_3, zm_4, zm_5, zm_6, zm_7, zm_8, zm_9, zf_0, zf_1, zf_2, zf_3, zf_4, zf_5, zf_6, zf_7, zf_8, zf_9, zf_10, zf_14, zf_15, zf_16, zf_18, zf_19, zf_20, zf_24, zf_30, zf_31, zf_32, zf_33, zf_99, zf_100, zf_160, zf_200, zf_287, zf_288, zf_300, zf_1000, zf_1023, zf_1024, zf_1600, zf_3840, zf_25600, zf_36000, zf_1000000, zf_1000000000, zf_2000000000, zf_11560, za_1, za_2, za_4, za_5, za_6, za_7, za_8, za_9, za_10, za_11, za_12, za_14, za_15, za_22, za_23, za_25, za_26, za_27, za_28, za_29, za_30, za_31, za_32, za_33, za_34, za_35, za_41, za_42, za_43, za_44, za_45, za_46, za_47, za_48, za_49, za_61, za_62, za_63, za_64, za_65, za_71, za_72, za_73, za_74, za_75, za_76, za_77, za_78, za_79, za_80, za_81, za_82, za_83, za_84, za_85, za_86, za_87, za_88, za_89, za_90, za_91, za_92, za_93, za_94, za_95, za_96, za_97, za_98, za_99, za_100, za_101, za_102, za_103, za_104, za_105, za_106, za_107, za_108, e60, e63, e64, e65, c1']
      · refine Or.inl ⟨m2, ⟨fun c hc => ?_, g2⟩, ?_⟩
        · rw [vtK_s, decide_eq_false c1, Bool.false_and, if_neg (by simp)]
          exact g1 c hc
        · show S_X2_countVotes_23 N (L_X2_countVotes_23 N F) m2 (nI (lgf w ls)) (nI k) = _
          unfold S_X2_countVotes_23 B_X2_countVotes_56
          have c1' : ¬ nI (cmf w ls k) = nI (lgf w ls) := fun h => c1 ((nI_eq (by omega) (by omega)).mp h)
          simp (disch := omega) only [zi_t, zi_f, bnd_t, zg_in, zx, nI_ltI, nI_leI, nI_eq, nI_add, pk_mul, pk_sub, mup_s, mup_c, mup_j, mrw_c, if_pos, if_neg, zm_1, zm_2, zm_3, zm_4, zm_5, zm_6, zm_7, zm_8, zm_9, zf_0, zf_1, zf_2, zf_3, zf_4, zf_5, zf_6, zf_7, zf_8, zf_9, zf_10, zf_14, zf_15, zf_16, zf_18, zf_19, zf_20, zf_24, zf_30, zf_31, zf_32, zf_33, zf_99, zf_100, zf_160, zf_200, zf_287, zf_288, zf_300, zf_1000, zf_1023, zf_1024, zf_1600, zf_3840, zf_25600, zf_36000, zf_1000000, zf_1000000000, zf_2000000000, zf_11560, za_1, za_2, za_4, za_5, za_6, za_7, za_8, za_9, za_10, za_11, za_12, za_14, za_15, za_22, za_23, za_25, za_26, za_27, za_28, za_29, za_30, za_31, za_32, za_33, za_34, za_35, za_41, za_42, za_43, za_44, za_45, za_46, za_47, za_48, za_49, za_61, za_62, za_63, za_64, za_65, za_71, za_72, za_73, za_74, za_75, za_76, za_77, za_78, za_79, za_80, za_81, za_82, za_83, za_84, za_85, za_86, za_87, za_88, za_89, za_90, za_91, za_92, za_93, za_94, za_95, za_96, za_97, za_98, za_99, za_100, za_101, za_102, za_103, za_104, za_105, za_106, za_107, za_108, e60, e64, c1']
    · rintro F m2 ⟨g1, g2⟩
      have e60 := (g2.at (k := 60) (by omega) 5).trans h60
      refine ⟨m2, ?_, g1, g2⟩
      show S_X2_countVotes_23 N (L_X2_countVotes_23 N F) m2 (nI (lgf w ls)) (nI ls.length) = _
      unfold S_X2_countVotes_23
      simp (disch := omega) only [zi_t, zi_f, bnd_t, zg_in, zx, nI_ltI, nI_leI, nI_eq, nI_add, pk_mul, pk_sub, mup_s, mup_c, mup_j, mrw_c, if_pos, if_neg, zm_1, zm_2, zm_3, zm_4, zm_5, zm_6, zm_7, zm_8, zm_9, zf_0, zf_1, zf_2, zf_3, zf_4, zf_5, zf_6, zf_7, zf_8, zf_9, zf_10, zf_14, zf_15, zf_16, zf_18, zf_19, zf_20, zf_24, zf_30, zf_31, zf_32, zf_33, zf_99, zf_100, zf_160, zf_200, zf_287, zf_288, zf_300, zf_1000, zf_1023, zf_1024, zf_1600, zf_3840, zf_25600, zf_36000, zf_1000000, zf_1000000000, zf_2000000000, zf_11560, za_1, za_2, za_4, za_5, za_6, za_7, za_8, za_9, za_10, za_11, za_12, za_14, za_15, za_22, za_23, za_25, za_26, za_27, za_28, za_29, za_30, za_31, za_32, za_33, za_34, za_35, za_41, za_42, za_43, za_44, za_45, za_46, za_47, za_48, za_49, za_61, za_62, za_63, za_64, za_65, za_71, za_72, za_73, za_74, za_75, za_76, za_77, za_78, za_79, za_80, za_81, za_82, za_83, za_84, za_85, za_86, za_87, za_88, za_89, za_90, za_91, za_92, za_93, za_94, za_95, za_96, za_97, za_98, za_99, za_100, za_101, za_102, za_103, za_104, za_105, za_106, za_107, za_108, e60]
theorem cl_most {N : Nat} {v : Nat → Nat} {m : Mem} (hN : 40000 < N) (h : ∀ c, c < 6 → m 65 c = nI (v c)) (hv : ∀ c, v c ≤ 30) : F_X2_mostVoted N m = some (nI (bvK v 5), m) := by
  unfold F_X2_mostVoted
  refine loopF (σ := Unit) (fun F _ k => L_X2_mostVoted_4 N F m (nI (bvK v k)) (nI (k + 1))) 5 (fun _ _ => True) (fun o => o = some (nI (bvK v 5), m)) ?_ ?_ N 0 () (Nat.zero_le _) trivial (by omega)
  · rintro F k _ hk _
    have b1 := bvK_le v k
    have e1 := h (bvK v k) (by omega)
    have e2 := h (k + 1) (by omega)
    have b2 := hv (bvK v k)
    have b3 := hv (k + 1)
    refine Or.inl ⟨(), trivial, ?_⟩
    show S_X2_mostVoted_4 N (L_X2_mostVoted_4 N F) m (nI (bvK v k)) (nI (k + 1)) = L_X2_mostVoted_4 N F m (nI (if v (bvK v k) < v (k + 1) then k + 1 else bvK v k)) (nI (k + 1 + 1))
    unfold S_X2_mostVoted_4 B_X2_mostVoted_27
    by_cases c : v (bvK v k) < v (k + 1)
    · rw [if_pos c]
      simp (disch := omega) only [zi_t, zi_f, bnd_t, zg_in, zx, nI_ltI, nI_leI, nI_eq, nI_add, pk_mul, pk_sub, mup_s, mup_c, mup_j, mrw_c, if_pos, if_neg, zm_1, zm_2, zm_3, zm_4, zm_5, zm_6, zm_7, zm_8, zm_9, zf_0, zf_1, zf_2, zf_3, zf_4, zf_5, zf_6, zf_7, zf_8, zf_9, zf_10, zf_14, zf_15, zf_16, zf_18, zf_19, zf_20, zf_24, zf_30, zf_31, zf_32, zf_33, zf_99, zf_100, zf_160, zf_200, zf_287, zf_288, zf_300, zf_1000, zf_1023, zf_1024, zf_1600, zf_3840, zf_25600, zf_36000, zf_1000000, zf_1000000000, zf_2000000000, zf_11560, za_1, za_2, za_4, za_5, za_6, za_7, za_8, za_9, za_10, za_11, za_12, za_14, za_15, za_22, za_23, za_25, za_26, za_27, za_28, za_29, za_30, za_31, za_32, za_33, za_34, za_35, za_41, za_42, za_43, za_44, za_45, za_46, za_47, za_48, za_49, za_61, za_62, za_63, za_64, za_65, za_71, za_72, za_73, za_74, za_75, za_76, za_77, za_78, za_79, za_80, za_81, za_82, za_83, za_84, za_85, za_86, za_87, za_88, za_89, za_90, za_91, za_92, za_93, za_94, za_95, za_96, za_97, za_98, za_99, za_100, za_101, za_102, za_103, za_104, za_105, za_106, za_107, za_108, e1, e2]
    · rw [if_neg c]
      simp (disch := omega) only [zi_t, zi_f, bnd_t, zg_in, zx, nI_ltI, nI_leI, nI_eq, nI_add, pk_mul, pk_sub, mup_s, mup_c, mup_j, mrw_c, if_pos, if_neg, zm_1, zm_2, zm_3, zm_4, zm_5, zm_6, zm_7, zm_8, zm_9, zf_0, zf_1, zf_2, zf_3, zf_4, zf_5, zf_6, zf_7, zf_8, zf_9, zf_10, zf_14, zf_15, zf_16, zf_18, zf_19, zf_20, zf_24, zf_30, zf_31, zf_32, zf_33, zf_99, zf_100, zf_160, zf_200, zf_287, zf_288, zf_300, zf_1000, zf_1023, zf_1024, zf_1600, zf_3840, zf_25600, zf_36000, zf_1000000, zf_1000000000, zf_2000000000, zf_11560, za_1, za_2, za_4, za_5, za_6, za_7, za_8, za_9, za_10, za_11, za_12, za_14, za_15, za_22, za_23, za_25, za_26, za_27, za_28, za_29, za_30, za_31, za_32, za_33, za_34, za_35, za_41, za_42, za_43, za_44, za_45, za_46, za_47, za_48, za_49, za_61, za_62, za_63, za_64, za_65, za_71, za_72, za_73, za_74, za_75, za_76, za_77, za_78, za_79, za_80, za_81, za_82, za_83, za_84, za_85, za_86, za_87, za_88, za_89, za_90, za_91, za_92, za_93, za_94, za_95, za_96, za_97, za_98, za_99, za_100, za_101, za_102, za_103, za_104, za_105, za_106, za_107, za_108, e1, e2]
  · rintro F _ _
    show S_X2_mostVoted_4 N (L_X2_mostVoted_4 N F) m (nI (bvK v 5)) (nI (5 + 1)) = _
    unfold S_X2_mostVoted_4
    simp (disch := omega) only [zi_t, zi_f, bnd_t, zg_in, zx, nI_ltI, nI_leI, nI_eq, nI_add, pk_mul, pk_sub, mup_s, mup_c, mup_j, mrw_c, if_pos, if_neg, zm_1, zm_2, zm_3, zm_4, zm_5, zm_6, zm_7, zm_8, zm_9, zf_0, zf_1, zf_2, zf_3, zf_4, zf_5, zf_6, zf_7, zf_8, zf_9, zf_10, zf_14, zf_15, zf_16, zf_18, zf_19, zf_20, zf_24, zf_30, zf_31, zf_32, zf_33, zf_99, zf_100, zf_160, zf_200, zf_287, zf_288, zf_300, zf_1000, zf_1023, zf_1024, zf_1600, zf_3840, zf_25600, zf_36000, zf_1000000, zf_1000000000, zf_2000000000, zf_11560, za_1, za_2, za_4, za_5, za_6, za_7, za_8, za_9, za_10, za_11, za_12, za_14, za_15, za_22, za_23, za_25, za_26, za_27, za_28, za_29, za_30, za_31, za_32, za_33, za_34, za_35, za_41, za_42, za_43, za_44, za_45, za_46, za_47, za_48, za_49, za_61, za_62, za_63, za_64, za_65, za_71, za_72, za_73, za_74, za_75, za_76, za_77, za_78, za_79, za_80, za_81, za_82, za_83, za_84, za_85, za_86, za_87, za_88, za_89, za_90, za_91, za_92, za_93, za_94, za_95, za_96, za_97, za_98, za_99, za_100, za_101, za_102, za_103, za_104, za_105, za_106, za_107, za_108]
theorem cl_guess {N : Nat} {Ms : List Ma} {w : List Nat} {ls : Ls} {m : Mem} (hN : 40000 < N) (hV : InV Ms w ls) (hC : InC m Ms w ls) : ∃ m', F_X7_guess N m = some (gsR w ls, m') ∧ Off 64 66 m m' := by
  obtain ⟨v1, v2, v3, v4, v5, v6⟩ := hV
  obtain ⟨h1, h2, h3, h4, h5, h6, h7⟩ := hC
  have hcm : ∀ k, cmf w ls k ≤ 8 := fun k => Nat.le_trans (cmv_le _ _) v3
  have hlg : ∀ k, mxc (cmf w ls) k ≤ 8 := mxc_le hcm
  have hin : ∀ k, k < ls.length → (lsw ls k).length ≤ 8 ∧ (∀ x, x ∈ lsw ls k → x < 8) ∧ lsk ls k < 6 := fun k hk => v6 _ (List.mem_of_getElem? (ls_at hk))
  have key : ∃ m', F_X2_tell N m (nI w.length) = some (gsR w ls, m') ∧ Off 64 66 m m' := by
    unfold F_X2_tell
    refine loopF (fun F (m : Mem) k => L_X2_tell_5 N F m (nI w.length) (nI (mxc (cmf w ls) k)) (nI k)) ls.length (fun k m' => (∀ j, j < k → m' 64 j = nI (cmf w ls j)) ∧ Off 64 66 m m') (fun o => ∃ m', o = some (gsR w ls, m') ∧ Off 64 66 m m') ?_ ?_ N 0 m (Nat.zero_le _) ⟨fun j hj => absurd hj (Nat.not_lt_zero _), Off.rf⟩ (by omega)
    · rintro F k m1 hk ⟨k1, k2⟩
      obtain ⟨p1, p2, p3⟩ := h6 k _ (ls_at hk)
      obtain ⟨q1, q2, q3⟩ := hin k hk
      have e60 := (k2.at (k := 60) (by omega) 5).trans h5
      have he := cl_ending (N := N) (m := m1) hN (fun j x hx => (k2.at (k := 1) (by omega) j).trans (h4 j x hx)) ((k2.at (k := 62) (by omega) k).trans p1) (fun j x hx => (k2.at (k := 61) (by omega) _).trans (p3 j x hx)) v3 q1 v4 q2 (by omega)
      have b1 := hlg k
      have b2 := hcm k
      refine Or.inl ⟨mup m1 64 k (nI (cmf w ls k)), ⟨fun j hj => ?_, k2.up (by omega) (by omega)⟩, ?_⟩
      · rw [mup_if]
        by_cases e : j = k
        · rw [if_pos e, e]
        · rw [if_neg e]; exact k1 j (by omega)
      · show S_X2_tell_5 N (L_X2_tell_5 N F) m1 (nI w.length) (nI (mxc (cmf w ls) k)) (nI k) = L_X2_tell_5 N F (mup m1 64 k (nI (cmf w ls k))) (nI w.length) (nI (if mxc (cmf w ls) k < cmf w ls k then cmf w ls k else mxc (cmf w ls) k)) (nI (k + 1))
        unfold S_X2_tell_5
        simp (disch := omega) only [zi_t, zi_f, bnd_t, zg_in, zx, nI_ltI, nI_leI, nI_eq, nI_add, pk_mul, pk_sub, mup_s, mup_c, mup_j, mrw_c, if_pos, if_neg, zm_1, zm_2, zm_3, zm_4, zm_5, zm_6, zm_7, zm_8, zm_9, zf_0, zf_1, zf_2, zf_3, zf_4, zf_5, zf_6, zf_7, zf_8, zf_9, zf_10, zf_14, zf_15, zf_16, zf_18, zf_19, zf_20, zf_24, zf_30, zf_31, zf_32, zf_33, zf_99, zf_100, zf_160, zf_200, zf_287, zf_288, zf_300, zf_1000, zf_1023, zf_1024, zf_1600, zf_3840, zf_25600, zf_36000, zf_1000000, zf_1000000000, zf_2000000000, zf_11560, za_1, za_2, za_4, za_5, za_6, za_7, za_8, za_9, za_10, za_11, za_12, za_14, za_15, za_22, za_23, za_25, za_26, za_27, za_28, za_29, za_30, za_31, za_32, za_33, za_34, za_35, za_41, za_42, za_43, za_44, za_45, za_46, za_47, za_48, za_49, za_61, za_62, za_63, za_64, za_65, za_71, za_72, za_73, za_74, za_75, za_76, za_77, za_78, za_79, za_80, za_81, za_82, za_83, za_84, za_85, za_86, za_87, za_88, za_89, za_90, za_91, za_92, za_93, za_94, za_95, za_96, za_97, za_98, za_99, za_100, za_101, za_102, za_103, za_104, za_105, za_106, za_107, za_108, e60]
        rw [cal_t he]
        have hcf : cmv w (lsw ls k) = cmf w ls k := rfl
        rw [hcf]
        by_cases c : mxc (cmf w ls) k < cmf w ls k
        · rw [if_pos c]
          have c' : nI (mxc (cmf w ls) k) < nI (cmf w ls k) := (nI_ltI (by omega) (by omega)).mpr c
          simp (disch := omega) only [zi_t, zi_f, bnd_t, zg_in, zx, nI_ltI, nI_leI, nI_eq, nI_add, pk_mul, pk_sub, mup_s, mup_c, mup_j, mrw_c, if_pos, if_neg, zm_1, zm_2, zm_3, zm_4, zm_5, zm_6, zm_7, zm_8, zm_9, zf_0, zf_1, zf_2, zf_3, zf_4, zf_5, zf_6, zf_7, zf_8, zf_9, zf_10, zf_14, zf_15, zf_16, zf_18, zf_19, zf_20, zf_24, zf_30, zf_31, zf_32, zf_33, zf_99, zf_100, zf_160, zf_200, zf_287, zf_288, zf_300, zf_1000, zf_1023, zf_1024, zf_1600, zf_3840, zf_25600, zf_36000, zf_1000000, zf_1000000000, zf_2000000000, zf_11560, za_1, za_2, za_4, za_5, za_6, za_7, za_8, za_9, za_10, za_11, za_12, za_14, za_15, za_22, za_23, za_25, za_26, za_27, za_28, za_29, za_30, za_31, za_32, za_33, za_34, za_35, za_41, za_42, za_43, za_44, za_45, za_46, za_47, za_48, za_49, za_61, za_62, za_63, za_64, za_65, za_71, za_72, za_73, za_74, za_75, za_76, za_77, za_78, za_79, za_80, za_81, za_82, za_83, za_84, za_85, za_86, za_87, za_88, za_89, za_90, za_91, za_92, za_93, za_94, za_95, za_96, za_97, za_98, za_99, za_100, za_101, za_102, za_103, za_104, za_105, za_106, za_107, za_108, c']
        · rw [if_neg c]
          have c' : ¬ nI (mxc (cmf w ls) k) < nI (cmf w ls k) := fun h => c ((nI_ltI (by omega) (by omega)).mp h)
          simp (disch := omega) only [zi_t, zi_f, bnd_t, zg_in, zx, nI_ltI, nI_leI, nI_eq, nI_add, pk_mul, pk_sub, mup_s, mup_c, mup_j, mrw_c, if_pos, if_neg, zm_1, zm_2, zm_3, zm_4, zm_5, zm_6, zm_7, zm_8, zm_9, zf_0, zf_1, zf_2, zf_3, zf_4, zf_5, zf_6, zf_7, zf_8, zf_9, zf_10, zf_14, zf_15, zf_16, zf_18, zf_19, zf_20, zf_24, zf_30, zf_31, zf_32, zf_33, zf_99, zf_100, zf_160, zf_200, zf_287, zf_288, zf_300, zf_1000, zf_1023, zf_1024, zf_1600, zf_3840, zf_25600, zf_36000, zf_1000000, zf_1000000000, zf_2000000000, zf_11560, za_1, za_2, za_4, za_5, za_6, za_7, za_8, za_9, za_10, za_11, za_12, za_14, za_15, za_22, za_23, za_25, za_26, za_27, za_28, za_29, za_30, za_31, za_32, za_33, za_34, za_35, za_41, za_42, za_43, za_44, za_45, za_46, za_47, za_48, za_49, za_61, za_62, za_63, za_64, za_65, za_71, za_72, za_73, za_74, za_75, za_76, za_77, za_78, za_79, za_80, za_81, za_82, za_83, za_84, za_85, za_86, za_87, za_88, za_89, za_90, za_91, za_92, za_93, za_94, za_95, za_96, za_97, za_98, za_99, za_100, za_101, za_102, za_103, za_104, za_105, za_106, za_107, za_108, c']
    · rintro F m1 ⟨k1, k2⟩
      have e60 := (k2.at (k := 60) (by omega) 5).trans h5
      have b1 : lgf w ls ≤ 8 := hlg ls.length
      show ∃ m', S_X2_tell_5 N (L_X2_tell_5 N F) m1 (nI w.length) (nI (lgf w ls)) (nI ls.length) = _ ∧ _
      unfold S_X2_tell_5
      unfold gsR
      by_cases c : lgf w ls = 0
      · rw [if_pos c]
        refine ⟨m1, ?_, k2⟩
        simp (disch := omega) only [zi_t, zi_f, bnd_t, zg_in, zx, nI_ltI, nI_leI, nI_eq, nI_add, pk_mul, pk_sub, mup_s, mup_c, mup_j, mrw_c, if_pos, if_neg, zm_1, zm_2, zm_3, zm_4, zm_5, zm_6, zm_7, zm_8, zm_9, zf_0, zf_1, zf_2, zf_3, zf_4, zf_5, zf_6, zf_7, zf_8, zf_9, zf_10, zf_14, zf_15, zf_16, zf_18, zf_19, zf_20, zf_24, zf_30, zf_31, zf_32, zf_33, zf_99, zf_100, zf_160, zf_200, zf_287, zf_288, zf_300, zf_1000, zf_1023, zf_1024, zf_1600, zf_3840, zf_25600, zf_36000, zf_1000000, zf_1000000000, zf_2000000000, zf_11560, za_1, za_2, za_4, za_5, za_6, za_7, za_8, za_9, za_10, za_11, za_12, za_14, za_15, za_22, za_23, za_25, za_26, za_27, za_28, za_29, za_30, za_31, za_32, za_33, za_34, za_35, za_41, za_42, za_43, za_44, za_45, za_46, za_47, za_48, za_49, za_61, za_62, za_63, za_64, za_65, za_71, za_72, za_73, za_74, za_75, za_76, za_77, za_78, za_79, za_80, za_81, za_82, za_83, za_84, za_85, za_86, za_87, za_88, za_89, za_90, za_91, za_92, za_93, za_94, za_95, za_96, za_97, za_98, za_99, za_100, za_101, za_102, za_103, za_104, za_105, za_106, za_107, za_108, e60, c]
      · rw [if_neg c]
        obtain ⟨m2, g1, g2, g3⟩ := cl_votes (N := N) (w := w) (ls := ls) (m := m1) hN v5 b1 e60 (fun k hk => (k2.at (k := 63) (by omega) k).trans (h6 k _ (ls_at hk)).2.1) (fun k hk => (hin k hk).2.2) k1 hcm
        have hvt : ∀ c, vtf w ls c ≤ 30 := fun c => Nat.le_trans (vtK_le w ls c ls.length) v5
        have g5 := cl_most (N := N) hN g2 hvt
        have b5 := bvK_le (vtf w ls) 5
        have e65 := g2 _ (by omega : bvK (vtf w ls) 5 < 6)
        have b6 := hvt (bvK (vtf w ls) 5)
        refine ⟨m2, ?_, k2.tr (g3.wd (by omega) (by omega))⟩
        have c' : ¬ nI (lgf w ls) = nI 0 := fun h => c ((nI_eq (b := 0) (by omega) (by omega)).mp h)
        simp (disch := omega) only [zi_t, zi_f, bnd_t, zg_in, zx, nI_ltI, nI_leI, nI_eq, nI_add, pk_mul, pk_sub, mup_s, mup_c, mup_j, mrw_c, if_pos, if_neg, zm_1, zm_2, zm_3, zm_4, zm_5, zm_6, zm_7, zm_8, zm_9, zf_0, zf_1, zf_2, zf_3, zf_4, zf_5, zf_6, zf_7, zf_8, zf_9, zf_10, zf_14, zf_15, zf_16, zf_18, zf_19, zf_20, zf_24, zf_30, zf_31, zf_32, zf_33, zf_99, zf_100, zf_160, zf_200, zf_287, zf_288, zf_300, zf_1000, zf_1023, zf_1024, zf_1600, zf_3840, zf_25600, zf_36000, zf_1000000, zf_1000000000, zf_2000000000, zf_11560, za_1, za_2, za_4, za_5, za_6, za_7, za_8, za_9, za_10, za_11, za_12, za_14, za_15, za_22, za_23, za_25, za_26, za_27, za_28, za_29, za_30, za_31, za_32, za_33, za_34, za_35, za_41, za_42, za_43, za_44, za_45, za_46, za_47, za_48, za_49, za_61, za_62, za_63, za_64, za_65, za_71, za_72, za_73, za_74, za_75, za_76, za_77, za_78, za_79, za_80, za_81, za_82, za_83, za_84, za_85, za_86, za_87, za_88, za_89, za_90, za_91, za_92, za_93, za_94, za_95, za_96, za_97, za_98, za_99, za_100, za_101, za_102, za_103, za_104, za_105, za_106, za_107, za_108, e60, c']
        rw [calv_t g1, cal_t g5]
        simp (disch := omega) only [zi_t, zi_f, bnd_t, zg_in, zx, nI_ltI, nI_leI, nI_eq, nI_add, pk_mul, pk_sub, mup_s, mup_c, mup_j, mrw_c, if_pos, if_neg, zm_1, zm_2, zm_3, zm_4, zm_5, zm_6, zm_7, zm_8, zm_9, zf_0, zf_1, zf_2, zf_3, zf_4, zf_5, zf_6, zf_7, zf_8, zf_9, zf_10, zf_14, zf_15, zf_16, zf_18, zf_19, zf_20, zf_24, zf_30, zf_31, zf_32, zf_33, zf_99, zf_100, zf_160, zf_200, zf_287, zf_288, zf_300, zf_1000, zf_1023, zf_1024, zf_1600, zf_3840, zf_25600, zf_36000, zf_1000000, zf_1000000000, zf_2000000000, zf_11560, za_1, za_2, za_4, za_5, za_6, za_7, za_8, za_9, za_10, za_11, za_12, za_14, za_15, za_22, za_23, za_25, za_26, za_27, za_28, za_29, za_30, za_31, za_32, za_33, za_34, za_35, za_41, za_42, za_43, za_44, za_45, za_46, za_47, za_48, za_49, za_61, za_62, za_63, za_64, za_65, za_71, za_72, za_73, za_74, za_75, za_76, za_77, za_78, za_79, za_80, za_81, za_82, za_83, za_84, za_85, za_86, za_87, za_88, za_89, za_90, za_91, za_92, za_93, za_94, za_95, za_96, za_97, za_98, za_99, za_100, za_101, za_102, za_103, za_104, za_105, za_106, za_107, za_108, e65]
        obtain ⟨V, hV⟩ : ∃ V, V = vtf w ls (bvK (vtf w ls) 5) := ⟨_, rfl⟩
        rw [← hV] at b6 ⊢
        by_cases c9 : 9 < V
        · rw [show min V 9 = 9 by omega]
          simp (disch := omega) only [zi_t, zi_f, bnd_t, zg_in, zx, nI_ltI, nI_leI, nI_eq, nI_add, pk_mul, pk_sub, mup_s, mup_c, mup_j, mrw_c, if_pos, if_neg, zm_1, zm_2, zm_3, zm_4, zm_5, zm_6, zm_7, zm_8, zm_9, zf_0, zf_1, zf_2, zf_3, zf_4, zf_5, zf_6, zf_7, zf_8, zf_9, zf_10, zf_14, zf_15, zf_16, zf_18, zf_19, zf_20, zf_24, zf_30, zf_31, zf_32, zf_33, zf_99, zf_100, zf_160, zf_200, zf_287, zf_288, zf_300, zf_1000, zf_1023, zf_1024, zf_1600, zf_3840, zf_25600, zf_36000, zf_1000000, zf_1000000000, zf_2000000000, zf_11560, za_1, za_2, za_4, za_5, za_6, za_7, za_8, za_9, za_10, za_11, za_12, za_14, za_15, za_22, za_23, za_25, za_26, za_27, za_28, za_29, za_30, za_31, za_32, za_33, za_34, za_35, za_41, za_42, za_43, za_44, za_45, za_46, za_47, za_48, za_49, za_61, za_62, za_63, za_64, za_65, za_71, za_72, za_73, za_74, za_75, za_76, za_77, za_78, za_79, za_80, za_81, za_82, za_83, za_84, za_85, za_86, za_87, za_88, za_89, za_90, za_91, za_92, za_93, za_94, za_95, za_96, za_97, za_98, za_99, za_100, za_101, za_102, za_103, za_104, za_105, za_106, za_107, za_108]
        · rw [show min V 9 = V by omega]
          simp (disch := omega) only [zi_t, zi_f, bnd_t, zg_in, zx, nI_ltI, nI_leI, nI_eq, nI_add, pk_mul, pk_sub, mup_s, mup_c, mup_j, mrw_c, if_pos, if_neg, zm_1, zm_2, zm_3, zm_4, zm_5, zm_6, zm_7, zm_8, zm_9, zf_0, zf_1, zf_2, zf_3, zf_4, zf_5, zf_6, zf_7, zf_8, zf_9, zf_10, zf_14, zf_15, zf_16, zf_18, zf_19, zf_20, zf_24, zf_30, zf_31, zf_32, zf_33, zf_99, zf_100, zf_160, zf_200, zf_287, zf_288, zf_300, zf_1000, zf_1023, zf_1024, zf_1600, zf_3840, zf_25600, zf_36000, zf_1000000, zf_1000000000, zf_2000000000, zf_11560, za_1, za_2, za_4, za_5, za_6, za_7, za_8, za_9, za_10, za_11, za_12, za_14, za_15, za_22, za_23, za_25, za_26, za_27, za_28, za_29, za_30, za_31, za_32, za_33, za_34, za_35, za_41, za_42, za_43, za_44, za_45, za_46, za_47, za_48, za_49, za_61, za_62, za_63, za_64, za_65, za_71, za_72, za_73, za_74, za_75, za_76, za_77, za_78, za_79, za_80, za_81, za_82, za_83, za_84, za_85, za_86, za_87, za_88, za_89, za_90, za_91, za_92, za_93, za_94, za_95, za_96, za_97, za_98, za_99, za_100, za_101, za_102, za_103, za_104, za_105, za_106, za_107, za_108]
  obtain ⟨m', g1, g2⟩ := key
  refine ⟨m', ?_, g2⟩
  unfold F_X7_guess
  rw [h3, cal_t g1]
