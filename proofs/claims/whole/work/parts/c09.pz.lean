/-! the model begins to tell, and is done -/
theorem mo_begT {N : Nat} {m : Mem} (hN : 40000 < N) : ∃ m', F_X8_begins_ N m (nI 1) = some m' ∧ Fx 100 101 [] m m' ∧ ∀ a, a < 288 → m' 100 a = nI (if a = 0 then 0 else 2000000000) := by
  unfold F_X8_begins_
  refine loopF (fun g (m : Mem) c => L_X8_begins__2 N g m (nI 1) (nI c)) 288 (fun c m' => Fx 100 101 [] m m' ∧ ∀ a, a < c → m' 100 a = nI (if a = 0 then 0 else 2000000000)) (fun o => ∃ m', o = some m' ∧ Fx 100 101 [] m m' ∧ ∀ a, a < 288 → m' 100 a = nI (if a = 0 then 0 else 2000000000)) ?_ ?_ N 0 m (by omega) ⟨Fx.rf, fun a ha => absurd ha (Nat.not_lt_zero _)⟩ (by omega)
  · rintro g c m1 hc ⟨i1, i2⟩
    have hup : ∀ v, v = nI (if c = 0 then 0 else 2000000000) → Fx 100 101 [] m (mup m1 100 c v) ∧ ∀ a, a < c + 1 → mup m1 100 c v 100 a = nI (if a = 0 then 0 else 2000000000) := by
      intro v hv
      refine ⟨i1.up (by omega) (by omega) (by omega), fun a ha => ?_⟩
      rw [mup_if]
      by_cases e : a = c
      · rw [if_pos e, e, hv]
      · rw [if_neg e]; exact i2 a (by omega)
    left
    show ∃ s', _ ∧ S_X8_begins__2 N (L_X8_begins__2 N g) m1 (nI 1) (nI c) = _
    unfold S_X8_begins__2 B_X8_begins__26 B_X8_begins__42
    by_cases e : c = 0
    · refine ⟨_, hup (nI 0) (by rw [if_pos e]), ?_⟩
      simp (disch := omega) only [zi_t, zi_f, bnd_t, zg_in, zx, nI_ltI, nI_leI, nI_eq, nI_add, pk_mul, pk_sub, mup_s, mup_c, mup_j, mrw_c, if_pos, if_neg, zm_1, zm_2, zm_3, zm_4, zm_5, zm_6, zm_7, zm_8, zm_9, zf_0, zf_1, zf_2, zf_3, zf_4, zf_5, zf_6, zf_7, zf_8, zf_9, zf_10, zf_14, zf_15, zf_16, zf_18, zf_19, zf_20, zf_24, zf_30, zf_31, zf_32, zf_33, zf_99, zf_100, zf_160, zf_200, zf_287, zf_288, zf_300, zf_1000, zf_1023, zf_1024, zf_1600, zf_3840, zf_25600, zf_36000, zf_1000000, zf_1000000000, zf_2000000000, zf_11560, za_1, za_2, za_4, za_5, za_6, za_7, za_8, za_9, za_10, za_11, za_12, za_14, za_15, za_22, za_23, za_25, za_26, za_27, za_28, za_29, za_30, za_31, za_32, za_33, za_34, za_35, za_41, za_42, za_43, za_44, za_45, za_46, za_47, za_48, za_49, za_61, za_62, za_63, za_64, za_65, za_71, za_72, za_73, za_74, za_75, za_76, za_77, za_78, za_79, za_80, za_81, za_82, za_83, za_84, za_85, za_86, za_87, za_88, za_89, za_90, za_91, za_92, za_93, za_94, za_95, za_96, za_97, za_98, za_99, za_100, za_101, za_102, za_103, za_104, za_105, za_106, za_107, za_108, e]
    · refine ⟨_, hup (nI 2000000000) (by rw [if_neg e]), ?_⟩
      simp (disch := omega) only [zi_t, zi_f, bnd_t, zg_in, zx, nI_ltI, nI_leI, nI_eq, nI_add, pk_mul, pk_sub, mup_s, mup_c, mup_j, mrw_c, if_pos, if_neg, zm_1, zm_2, zm_3, zm_4, zm_5, zm_6, zm_7, zm_8, zm_9, zf_0, zf_1, zf_2, zf_3, zf_4, zf_5, zf_6, zf_7, zf_8, zf_9, zf_10, zf_14, zf_15, zf_16, zf_18, zf_19, zf_20, zf_24, zf_30, zf_31, zf_32, zf_33, zf_99, zf_100, zf_160, zf_200, zf_287, zf_288, zf_300, zf_1000, zf_1023, zf_1024, zf_1600, zf_3840, zf_25600, zf_36000, zf_1000000, zf_1000000000, zf_2000000000, zf_11560, za_1, za_2, za_4, za_5, za_6, za_7, za_8, za_9, za_10, za_11, za_12, za_14, za_15, za_22, za_23, za_25, za_26, za_27, za_28, za_29, za_30, za_31, za_32, za_33, za_34, za_35, za_41, za_42, za_43, za_44, za_45, za_46, za_47, za_48, za_49, za_61, za_62, za_63, za_64, za_65, za_71, za_72, za_73, za_74, za_75, za_76, za_77, za_78, za_79, za_80, za_81, za_82, za_83, za_84, za_85, za_86, za_87, za_88, za_89, za_90, za_91, za_92, za_93, za_94, za_95, za_96, za_97, za_98, za_99, za_100, za_101, za_102, za_103, za_104, za_105, za_106, za_107, za_108]
  · rintro g m1 ⟨i1, i2⟩
    refine ⟨m1, ?_, i1, i2⟩
    show S_X8_begins__2 N (L_X8_begins__2 N g) m1 (nI 1) (nI 288) = _
    unfold S_X8_begins__2
    simp (disch := omega) only [zi_t, zi_f, bnd_t, zg_in, zx, nI_ltI, nI_leI, nI_eq, nI_add, pk_mul, pk_sub, mup_s, mup_c, mup_j, mrw_c, if_pos, if_neg, zm_1, zm_2, zm_3, zm_4, zm_5, zm_6, zm_7, zm_8, zm_9, zf_0, zf_1, zf_2, zf_3, zf_4, zf_5, zf_6, zf_7, zf_8, zf_9, zf_10, zf_14, zf_15, zf_16, zf_18, zf_19, zf_20, zf_24, zf_30, zf_31, zf_32, zf_33, zf_99, zf_100, zf_160, zf_200, zf_287, zf_288, zf_300, zf_1000, zf_1023, zf_1024, zf_1600, zf_3840, zf_25600, zf_36000, zf_1000000, zf_1000000000, zf_2000000000, zf_11560, za_1, za_2, za_4, za_5, za_6, za_7, za_8, za_9, za_10, za_11, za_12, za_14, za_15, za_22, za_23, za_25, za_26, za_27, za_28, za_29, za_30, za_31, za_32, za_33, za_34, za_35, za_41, za_42, za_43, za_44, za_45, za_46, za_47, za_48, za_49, za_61, za_62, za_63, za_64, za_65, za_71, za_72, za_73, za_74, za_75, za_76, za_77, za_78, za_79, za_80, za_81, za_82, za_83, za_84, za_85, za_86, za_87, za_88, za_89, za_90, za_91, za_92, za_93, za_94, za_95, za_96, za_97, za_98, za_99, za_100, za_101, za_102, za_103, za_104, za_105, za_106, za_107, za_108]
theorem mo_begF {N : Nat} {m : Mem} (hN : 40000 < N) : ∃ m', F_X8_begins_ N m (nI 0) = some m' ∧ Fx 100 101 [] m m' ∧ ∀ a, a < 288 → m' 100 a = m 101 a := by
  unfold F_X8_begins_
  refine loopF (fun g (m : Mem) c => L_X8_begins__2 N g m (nI 0) (nI c)) 288 (fun c m' => Fx 100 101 [] m m' ∧ ∀ a, a < c → m' 100 a = m 101 a) (fun o => ∃ m', o = some m' ∧ Fx 100 101 [] m m' ∧ ∀ a, a < 288 → m' 100 a = m 101 a) ?_ ?_ N 0 m (by omega) ⟨Fx.rf, fun a ha => absurd ha (Nat.not_lt_zero _)⟩ (by omega)
  · rintro g c m1 hc ⟨i1, i2⟩
    left
    refine ⟨mup m1 100 c (m1 101 c), ⟨i1.up (by omega) (by omega) (by omega), fun a ha => ?_⟩, ?_⟩
    · rw [mup_if]
      by_cases e : a = c
      · rw [if_pos e, e, i1.1 101 (by omega) (by omega)]
      · rw [if_neg e]; exact i2 a (by omega)
    · show S_X8_begins__2 N (L_X8_begins__2 N g) m1 (nI 0) (nI c) = _
      unfold S_X8_begins__2 B_X8_begins__26 B_X8_begins__42
      simp (disch := omega) only [zi_t, zi_f, bnd_t, zg_in, zx, nI_ltI, nI_leI, nI_eq, nI_add, pk_mul, pk_sub, mup_s, mup_c, mup_j, mrw_c, if_pos, if_neg, zm_1, zm_2, zm_3, zm_4, zm_5, zm_6, zm_7, zm_8, zm_9, zf_0, zf_1, zf_2, zf_3, zf_4, zf_5, zf_6, zf_7, zf_8, zf_9, zf_10, zf_14, zf_15, zf_16, zf_18, zf_19, zf_20, zf_24, zf_30, zf_31, zf_32, zf_33, zf_99, zf_100, zf_160, zf_200, zf_287, zf_288, zf_300, zf_1000, zf_1023, zf_1024, zf_1600, zf_3840, zf_25600, zf_36000, zf_1000000, zf_1000000000, zf_2000000000, zf_11560, za_1, za_2, za_4, za_5, za_6, za_7, za_8, za_9, za_10, za_11, za_12, za_14, za_15, za_22, za_23, za_25, za_26, za_27, za_28, za_29, za_30, za_31, za_32, za_33, za_34, za_35, za_41, za_42, za_43, za_44, za_45, za_46, za_47, za_48, za_49, za_61, za_62, za_63, za_64, za_65, za_71, za_72, za_73, za_74, za_75, za_76, za_77, za_78, za_79, za_80, za_81, za_82, za_83, za_84, za_85, za_86, za_87, za_88, za_89, za_90, za_91, za_92, za_93, za_94, za_95, za_96, za_97, za_98, za_99, za_100, za_101, za_102, za_103, za_104, za_105, za_106, za_107, za_108]
  · rintro g m1 ⟨i1, i2⟩
    refine ⟨m1, ?_, i1, i2⟩
    show S_X8_begins__2 N (L_X8_begins__2 N g) m1 (nI 0) (nI 288) = _
    unfold S_X8_begins__2
    simp (disch := omega) only [zi_t, zi_f, bnd_t, zg_in, zx, nI_ltI, nI_leI, nI_eq, nI_add, pk_mul, pk_sub, mup_s, mup_c, mup_j, mrw_c, if_pos, if_neg, zm_1, zm_2, zm_3, zm_4, zm_5, zm_6, zm_7, zm_8, zm_9, zf_0, zf_1, zf_2, zf_3, zf_4, zf_5, zf_6, zf_7, zf_8, zf_9, zf_10, zf_14, zf_15, zf_16, zf_18, zf_19, zf_20, zf_24, zf_30, zf_31, zf_32, zf_33, zf_99, zf_100, zf_160, zf_200, zf_287, zf_288, zf_300, zf_1000, zf_1023, zf_1024, zf_1600, zf_3840, zf_25600, zf_36000, zf_1000000, zf_1000000000, zf_2000000000, zf_11560, za_1, za_2, za_4, za_5, za_6, za_7, za_8, za_9, za_10, za_11, za_12, za_14, za_15, za_22, za_23, za_25, za_26, za_27, za_28, za_29, za_30, za_31, za_32, za_33, za_34, za_35, za_41, za_42, za_43, za_44, za_45, za_46, za_47, za_48, za_49, za_61, za_62, za_63, za_64, za_65, za_71, za_72, za_73, za_74, za_75, za_76, za_77, za_78, za_79, za_80, za_81, za_82, za_83, za_84, za_85, za_86, za_87, za_88, za_89, za_90, za_91, za_92, za_93, za_94, za_95, za_96, za_97, za_98, za_99, za_100, za_101, za_102, za_103, za_104, za_105, za_106, za_107, za_108]
theorem mo_isDone {N i n d0 : Nat} {f : Nat → Bool} {L : ArL} {w : List Nat} {δ V : Nat → Nat} {m : Mem} (hN : 40000 < N) (hG : GD i n L w) (hM : MLk m i n f L w δ) (hV : ∀ a, a < 288 → m 100 a = nI (V a) ∧ V a ≤ 2000000000) (hd : d0 < 1000000000) :
    ∃ b, F_X8_isDoneFor N m (nI i) (nI d0) = some (bI b, m) ∧ (b = true ↔ ∃ s, s < n ∧ f s = true ∧ V (32 * w.length + s) = d0) := by
  obtain ⟨hi, hok, hl, hn, hwl, hwx, _⟩ := hG
  have e72 := hM.1.1.1
  have e702 := hM.1.2.1
  unfold F_X8_isDoneFor
  refine loopF (σ := Bool) (fun g x s => L_X8_isDoneFor_5 N g m (nI i) (nI d0) (bI x) (nI s)) n (fun s x => x = true ↔ ∃ t, t < s ∧ f t = true ∧ V (32 * w.length + t) = d0) (fun o => ∃ b, o = some (bI b, m) ∧ (b = true ↔ ∃ s, s < n ∧ f s = true ∧ V (32 * w.length + s) = d0)) ?_ ?_ N 0 false (Nat.zero_le _) ⟨fun h => (by cases h), fun ⟨t, ht, _⟩ => absurd ht (Nat.not_lt_zero _)⟩ (by omega)
  · rintro g s fl hs hI
    have hI : fl = true ↔ ∃ t, t < s ∧ f t = true ∧ V (32 * w.length + t) = d0 := hI
    left
    show ∃ s' : Bool, _ ∧ S_X8_isDoneFor_5 N (L_X8_isDoneFor_5 N g) m (nI i) (nI d0) (bI fl) (nI s) = _
    unfold S_X8_isDoneFor_5 B_X8_isDoneFor_53 B_X8_isDoneFor_49 B_X8_isDoneFor_54
    have hend := mo_isEndOf (N := N) (s := s) hM.1.1.2.1 hi hn (by omega)
    obtain ⟨ev, lv⟩ := hV (32 * w.length + s) (by omega)
    cases fl with
    | true =>
      obtain ⟨t, t1, t2⟩ := hI.mp rfl
      refine ⟨true, ⟨fun _ => ⟨t, by omega, t2⟩, fun _ => rfl⟩, ?_⟩
      simp (disch := omega) only [zi_t, zi_f, bnd_t, zg_in, zx, nI_ltI, nI_leI, nI_eq, nI_add, pk_mul, pk_sub, mup_s, mup_c, mup_j, mrw_c, if_pos, if_neg, zm_1, zm_2, zm_3, zm_4, zm_5, zm_6, zm_7, zm_8, zm_9, zf_0, zf_1, zf_2, zf_3, zf_4, zf_5, zf_6, zf_7, zf_8, zf_9, zf_10, zf_14, zf_15, zf_16, zf_18, zf_19, zf_20, zf_24, zf_30, zf_31, zf_32, zf_33, zf_99, zf_100, zf_160, zf_200, zf_287, zf_288, zf_300, zf_1000, zf_1023, zf_1024, zf_1600, zf_3840, zf_25600, zf_36000, zf_1000000, zf_1000000000, zf_2000000000, zf_11560, za_1, za_2, za_4, za_5, za_6, za_7, za_8, za_9, za_10, za_11, za_12, za_14, za_15, za_22, za_23, za_25, za_26, za_27, za_28, za_29, za_30, za_31, za_32, za_33, za_34, za_35, za_41, za_42, za_43, za_44, za_45, za_46, za_47, za_48, za_49, za_61, za_62, za_63, za_64, za_65, za_71, za_72, za_73, za_74, za_75, za_76, za_77, za_78, za_79, za_80, za_81, za_82, za_83, za_84, za_85, za_86, za_87, za_88, za_89, za_90, za_91, za_92, za_93, za_94, za_95, za_96, za_97, za_98, za_99, za_100, za_101, za_102, za_103, za_104, za_105, za_106, za_107, za_108, e72, bI_t]
    | false =>
      have hno : ∀ t, t < s → f t = true → ¬ V (32 * w.length + t) = d0 := fun t t1 t2 t3 => by
        have := hI.mpr ⟨t, t1, t2, t3⟩
        cases this
      cases hf : f s with
      | false =>
        rw [hf, Bool.and_false] at hend
        refine ⟨false, ⟨fun h => (by cases h), fun ⟨t, t1, t2, t3⟩ => ?_⟩, ?_⟩
        · by_cases e : t = s
          · rw [e, hf] at t2; cases t2
          · exact absurd t3 (hno t (by omega) t2)
        · simp (disch := omega) only [zi_t, zi_f, bnd_t, zg_in, zx, nI_ltI, nI_leI, nI_eq, nI_add, pk_mul, pk_sub, mup_s, mup_c, mup_j, mrw_c, if_pos, if_neg, zm_1, zm_2, zm_3, zm_4, zm_5, zm_6, zm_7, zm_8, zm_9, zf_0, zf_1, zf_2, zf_3, zf_4, zf_5, zf_6, zf_7, zf_8, zf_9, zf_10, zf_14, zf_15, zf_16, zf_18, zf_19, zf_20, zf_24, zf_30, zf_31, zf_32, zf_33, zf_99, zf_100, zf_160, zf_200, zf_287, zf_288, zf_300, zf_1000, zf_1023, zf_1024, zf_1600, zf_3840, zf_25600, zf_36000, zf_1000000, zf_1000000000, zf_2000000000, zf_11560, za_1, za_2, za_4, za_5, za_6, za_7, za_8, za_9, za_10, za_11, za_12, za_14, za_15, za_22, za_23, za_25, za_26, za_27, za_28, za_29, za_30, za_31, za_32, za_33, za_34, za_35, za_41, za_42, za_43, za_44, za_45, za_46, za_47, za_48, za_49, za_61, za_62, za_63, za_64, za_65, za_71, za_72, za_73, za_74, za_75, za_76, za_77, za_78, za_79, za_80, za_81, za_82, za_83, za_84, za_85, za_86, za_87, za_88, za_89, za_90, za_91, za_92, za_93, za_94, za_95, za_96, za_97, za_98, za_99, za_100, za_101, za_102, za_103, za_104, za_105, za_106, za_107, za_108, e72, bI_f]
          rw [cal_t hend]
          simp (disch := omega) only [zi_t, zi_f, bnd_t, zg_in, zx, nI_ltI, nI_leI, nI_eq, nI_add, pk_mul, pk_sub, mup_s, mup_c, mup_j, mrw_c, if_pos, if_neg, zm_1, zm_2, zm_3, zm_4, zm_5, zm_6, zm_7, zm_8, zm_9, zf_0, zf_1, zf_2, zf_3, zf_4, zf_5, zf_6, zf_7, zf_8, zf_9, zf_10, zf_14, zf_15, zf_16, zf_18, zf_19, zf_20, zf_24, zf_30, zf_31, zf_32, zf_33, zf_99, zf_100, zf_160, zf_200, zf_287, zf_288, zf_300, zf_1000, zf_1023, zf_1024, zf_1600, zf_3840, zf_25600, zf_36000, zf_1000000, zf_1000000000, zf_2000000000, zf_11560, za_1, za_2, za_4, za_5, za_6, za_7, za_8, za_9, za_10, za_11, za_12, za_14, za_15, za_22, za_23, za_25, za_26, za_27, za_28, za_29, za_30, za_31, za_32, za_33, za_34, za_35, za_41, za_42, za_43, za_44, za_45, za_46, za_47, za_48, za_49, za_61, za_62, za_63, za_64, za_65, za_71, za_72, za_73, za_74, za_75, za_76, za_77, za_78, za_79, za_80, za_81, za_82, za_83, za_84, za_85, za_86, za_87, za_88, za_89, za_90, za_91, za_92, za_93, za_94, za_95, za_96, za_97, za_98, za_99, za_100, za_101, za_102, za_103, za_104, za_105, za_106, za_107, za_108, bI_f]
      | true =>
        rw [hf, decide_eq_true hs, Bool.and_true] at hend
        by_cases c : V (32 * w.length + s) = d0
        · refine ⟨true, ⟨fun _ => ⟨s, by omega, hf, c⟩, fun _ => rfl⟩, ?_⟩
          rw [c] at ev
          simp (disch := omega) only [zi_t, zi_f, bnd_t, zg_in, zx, nI_ltI, nI_leI, nI_eq, nI_add, pk_mul, pk_sub, mup_s, mup_c, mup_j, mrw_c, if_pos, if_neg, zm_1, zm_2, zm_3, zm_4, zm_5, zm_6, zm_7, zm_8, zm_9, zf_0, zf_1, zf_2, zf_3, zf_4, zf_5, zf_6, zf_7, zf_8, zf_9, zf_10, zf_14, zf_15, zf_16, zf_18, zf_19, zf_20, zf_24, zf_30, zf_31, zf_32, zf_33, zf_99, zf_100, zf_160, zf_200, zf_287, zf_288, zf_300, zf_1000, zf_1023, zf_1024, zf_1600, zf_3840, zf_25600, zf_36000, zf_1000000, zf_1000000000, zf_2000000000, zf_11560, za_1, za_2, za_4, za_5, za_6, za_7, za_8, za_9, za_10, za_11, za_12, za_14, za_15, za_22, za_23, za_25, za_26, za_27, za_28, za_29, za_30, za_31, za_32, za_33, za_34, za_35, za_41, za_42, za_43, za_44, za_45, za_46, za_47, za_48, za_49, za_61, za_62, za_63, za_64, za_65, za_71, za_72, za_73, za_74, za_75, za_76, za_77, za_78, za_79, za_80, za_81, za_82, za_83, za_84, za_85, za_86, za_87, za_88, za_89, za_90, za_91, za_92, za_93, za_94, za_95, za_96, za_97, za_98, za_99, za_100, za_101, za_102, za_103, za_104, za_105, za_106, za_107, za_108, e72, bI_f]
          rw [cal_t hend]
          simp (disch := omega) only [zi_t, zi_f, bnd_t, zg_in, zx, nI_ltI, nI_leI, nI_eq, nI_add, pk_mul, pk_sub, mup_s, mup_c, mup_j, mrw_c, if_pos, if_neg, zm_1, zm_2, zm_3, zm_4, zm_5, zm_6, zm_7, zm_8, zm_9, zf_0, zf_1, zf_2, zf_3, zf_4, zf_5, zf_6, zf_7, zf_8, zf_9, zf_10, zf_14, zf_15, zf_16, zf_18, zf_19, zf_20, zf_24, zf_30, zf_31, zf_32, zf_33, zf_99, zf_100, zf_160, zf_200, zf_287, zf_288, zf_300, zf_1000, zf_1023, zf_1024, zf_1600, zf_3840, zf_25600, zf_36000, zf_1000000, zf_1000000000, zf_2000000000, zf_11560, za_1, za_2, za_4, za_5, za_6, za_7, za_8, za_9, za_10, za_11, za_12, za_14, za_15, za_22, za_23, za_25, za_26, za_27, za_28, za_29, za_30, za_31, za_32, za_33, za_34, za_35, za_41, za_42, za_43, za_44, za_45, za_46, za_47, za_48, za_49, za_61, za_62, za_63, za_64, za_65, za_71, za_72, za_73, za_74, za_75, za_76, za_77, za_78, za_79, za_80, za_81, za_82, za_83, za_84, za_85, za_86, za_87, za_88, za_89, za_90, za_91, za_92, za_93, za_94, za_95, za_96, za_97, za_98, za_99, za_100, za_101, za_102, za_103, za_104, za_105, za_106, za_107, za_108, bI_t, e702, ev]
        · refine ⟨false, ⟨fun h => (by cases h), fun ⟨t, t1, t2, t3⟩ => ?_⟩, ?_⟩
          · by_cases e : t = s
            · rw [e] at t3; exact absurd t3 c
            · exact absurd t3 (hno t (by omega) t2)
          · simp (disch := omega) only [zi_t, zi_f, bnd_t, zg_in, zx, nI_ltI, nI_leI, nI_eq, nI_add, pk_mul, pk_sub, mup_s, mup_c, mup_j, mrw_c, if_pos, if_neg, zm_1, zm_2, zm_3, zm_4, zm_5, zm_6, zm_7, zm_8, zm_9, zf_0, zf_1, zf_2, zf_3, zf_4, zf_5, zf_6, zf_7, zf_8, zf_9, zf_10, zf_14, zf_15, zf_16, zf_18, zf_19, zf_20, zf_24, zf_30, zf_31, zf_32, zf_33, zf_99, zf_100, zf_160, zf_200, zf_287, zf_288, zf_300, zf_1000, zf_1023, zf_1024, zf_1600, zf_3840, zf_25600, zf_36000, zf_1000000, zf_1000000000, zf_2000000000, zf_11560, za_1, za_2, za_4, za_5, za_6, za_7, za_8, za_9, za_10, za_11, za_12, za_14, za_15, za_22, za_23, za_25, za_26, za_27, za_28, za_29, za_30, za_31, za_32, za_33, za_34, za_35, za_41, za_42, za_43, za_44, za_45, za_46, za_47, za_48, za_49, za_61, za_62, za_63, za_64, za_65, za_71, za_72, za_73, za_74, za_75, za_76, za_77, za_78, za_79, za_80, za_81, za_82, za_83, za_84, za_85, za_86, za_87, za_88, za_89, za_90, za_91, za_92, za_93, za_94, za_95, za_96, za_97, za_98, za_99, za_100, za_101, za_102, za_103, za_104, za_105, za_106, za_107, za_108, e72, bI_f]
            rw [cal_t hend]
            simp (disch := omega) only [zi_t, zi_f, bnd_t, zg_in, zx, nI_ltI, nI_leI, nI_eq, nI_add, pk_mul, pk_sub, mup_s, mup_c, mup_j, mrw_c, if_pos, if_neg, zm_1, zm_2, zm_3, zm_4, zm_5, zm_6, zm_7, zm_8, zm_9, zf_0, zf_1, zf_2, zf_3, zf_4, zf_5, zf_6, zf_7, zf_8, zf_9, zf_10, zf_14, zf_15, zf_16, zf_18, zf_19, zf_20, zf_24, zf_30, zf_31, zf_32, zf_33, zf_99, zf_100, zf_160, zf_200, zf_287, zf_288, zf_300, zf_1000, zf_1023, zf_1024, zf_1600, zf_3840, zf_25600, zf_36000, zf_1000000, zf_1000000000, zf_2000000000, zf_11560, za_1, za_2, za_4, za_5, za_6, za_7, za_8, za_9, za_10, za_11, za_12, za_14, za_15, za_22, za_23, za_25, za_26, za_27, za_28, za_29, za_30, za_31, za_32, za_33, za_34, za_35, za_41, za_42, za_43, za_44, za_45, za_46, za_47, za_48, za_49, za_61, za_62, za_63, za_64, za_65, za_71, za_72, za_73, za_74, za_75, za_76, za_77, za_78, za_79, za_80, za_81, za_82, za_83, za_84, za_85, za_86, za_87, za_88, za_89, za_90, za_91, za_92, za_93, za_94, za_95, za_96, za_97, za_98, za_99, za_100, za_101, za_102, za_103, za_104, za_105, za_106, za_107, za_108, bI_t, e702, ev]
  · rintro g fl hI
    refine ⟨fl, ?_, hI⟩
    show S_X8_isDoneFor_5 N (L_X8_isDoneFor_5 N g) m (nI i) (nI d0) (bI fl) (nI n) = _
    unfold S_X8_isDoneFor_5
    simp (disch := omega) only [zi_t, zi_f, bnd_t, zg_in, zx, nI_ltI, nI_leI, nI_eq, nI_add, pk_mul, pk_sub, mup_s, mup_c, mup_j, mrw_c, if_pos, if_neg, zm_1, zm_2, zm_3, zm_4, zm_5, zm_6, zm_7, zm_8, zm_9, zf_0, zf_1, zf_2, zf_3, zf_4, zf_5, zf_6, zf_7, zf_8, zf_9, zf_10, zf_14, zf_15, zf_16, zf_18, zf_19, zf_20, zf_24, zf_30, zf_31, zf_32, zf_33, zf_99, zf_100, zf_160, zf_200, zf_287, zf_288, zf_300, zf_1000, zf_1023, zf_1024, zf_1600, zf_3840, zf_25600, zf_36000, zf_1000000, zf_1000000000, zf_2000000000, zf_11560, za_1, za_2, za_4, za_5, za_6, za_7, za_8, za_9, za_10, za_11, za_12, za_14, za_15, za_22, za_23, za_25, za_26, za_27, za_28, za_29, za_30, za_31, za_32, za_33, za_34, za_35, za_41, za_42, za_43, za_44, za_45, za_46, za_47, za_48, za_49, za_61, za_62, za_63, za_64, za_65, za_71, za_72, za_73, za_74, za_75, za_76, za_77, za_78, za_79, za_80, za_81, za_82, za_83, za_84, za_85, za_86, za_87, za_88, za_89, za_90, za_91, za_92, za_93, za_94, za_95, za_96, za_97, za_98, za_99, za_100, za_101, za_102, za_103, za_104, za_105, za_106, za_107, za_108, e72, gd_t (bI_isb' fl)]
theorem mo_isDoneA {N i n way : Nat} {f : Nat → Bool} {L : ArL} {w : List Nat} {δ : Nat → Nat} {m : Mem} {ρ : List Nat} {an : List Nat → Bool} (hN : 40000 < N) (hG : GD i n L w) (hM : MLk m i n f L w δ) (hδ : IsD (eG way L w) (En n f w) δ) (h0 : δ 0 < 1000000000) (han : ∀ ρ, an ρ = true ↔ AnK n f w (CpR way L w δ true ρ)) (h : TBs way L w δ m ρ) :
    F_X8_isDoneFor N m (nI i) (nI (δ 0)) = some (bI (an ρ), m) := by
  obtain ⟨V, hV, hmin⟩ := h
  obtain ⟨b, b1, b2⟩ := mo_isDone (N := N) (V := V) hN hG hM (fun a ha => ⟨(hV a ha).1, hV.top ha⟩) h0
  have hb : b = an ρ := by
    rw [Bool.eq_iff_iff, b2, han ρ]
    constructor
    · rintro ⟨s, s1, s2, s3⟩
      exact ⟨s, s1, s2, (done_iff hδ h0 hV hmin s1 hG.2.2.2.1 hG.2.2.2.2.1 s2).mp s3⟩
    · rintro ⟨s, s1, s2, s3⟩
      exact ⟨s, s1, s2, (done_iff hδ h0 hV hmin s1 hG.2.2.2.1 hG.2.2.2.2.1 s2).mpr s3⟩
  rw [b1, hb]
/-- the sum of a table -/
def smV (V : Nat → Nat) : Nat → Nat
  | 0 => 0
  | n + 1 => smV V n + V n
theorem smV_le {V V' : Nat → Nat} (h : ∀ a, V' a ≤ V a) : ∀ n, smV V' n ≤ smV V n
  | 0 => Nat.le_refl _
  | n + 1 => by
    have h1 := smV_le h n
    have h2 := h n
    show smV V' n + V' n ≤ smV V n + V n
    omega
theorem smV_lt {V V' : Nat → Nat} (h : ∀ a, V' a ≤ V a) {a : Nat} (hlt : V' a < V a) : ∀ n, a < n → smV V' n < smV V n
  | 0, ha => absurd ha (Nat.not_lt_zero _)
  | n + 1, ha => by
    show smV V' n + V' n < smV V n + V n
    have h2 := h n
    by_cases e : a = n
    · have h1 := smV_le h n
      rw [e] at hlt
      omega
    · have h1 := smV_lt h hlt n (by omega)
      omega
theorem smV_bd {V : Nat → Nat} {K : Nat} : ∀ n, (∀ a, a < n → V a ≤ K) → smV V n ≤ K * n
  | 0, _ => Nat.zero_le _
  | n + 1, h => by
    have h1 := smV_bd n (fun a ha => h a (by omega))
    have h2 := h n (by omega)
    show smV V n + V n ≤ K * (n + 1)
    rw [Nat.mul_succ]
    omega
