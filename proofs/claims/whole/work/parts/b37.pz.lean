/-! the model's rests, all -/
theorem mo_isEndOf {N i s n : Nat} {f : Nat → Bool} {m : Mem} (h : m 73 i = eB f n) (hi : i < 24) (hn : n ≤ 32) (hs : s < 32) : F_X8_isEndOf N m (nI i) (nI s) = some (bI (decide (s < n) && f s), m) := by
  unfold F_X8_isEndOf B_X8_isEndOf_19
  have e := bit_shr (x := eB f n) (s := s) (by omega)
  rw [tb_eB hn s hs] at e
  simp (disch := omega) only [zi_t, zi_f, bnd_t, zg_in, zx, nI_ltI, nI_leI, nI_eq, nI_add, pk_mul, pk_sub, mup_s, mup_c, mup_j, mrw_c, if_pos, if_neg, zm_1, zm_2, zm_3, zm_4, zm_5, zm_6, zm_7, zm_8, zm_9, zf_0, zf_1, zf_2, zf_3, zf_4, zf_5, zf_6, zf_7, zf_8, zf_9, zf_10, zf_14, zf_15, zf_16, zf_18, zf_19, zf_20, zf_24, zf_30, zf_31, zf_32, zf_33, zf_99, zf_100, zf_160, zf_200, zf_287, zf_288, zf_300, zf_1000, zf_1023, zf_1024, zf_1600, zf_3840, zf_25600, zf_36000, zf_1000000, zf_1000000000, zf_2000000000, zf_11560, za_1, za_2, za_4, za_5, za_6, za_7, za_8, za_9, za_10, za_11, za_12, za_14, za_15, za_22, za_23, za_25, za_26, za_27, za_28, za_29, za_30, za_31, za_32, za_33, za_34, za_35, za_41, za_42, za_43, za_44, za_45, za_46, za_47, za_48, za_49, za_61, za_62, za_63, za_64, za_65, za_71, za_72, za_73, za_74, za_75, za_76, za_77, za_78, za_79, za_80, za_81, za_82, za_83, za_84, za_85, za_86, za_87, za_88, za_89, za_90, za_91, za_92, za_93, za_94, za_95, za_96, za_97, za_98, za_99, za_100, za_101, za_102, za_103, za_104, za_105, za_106, za_107, za_108, h, e]
  cases (decide (s < n) && f s) <;> rfl
def iniM (n : Nat) (f : Nat → Bool) (w : List Nat) (a : Nat) : Nat := if a / 32 = w.length ∧ (decide (a % 32 < n) && f (a % 32)) = true then 0 else 2000000000
theorem ini_en {n : Nat} {f : Nat → Bool} {w : List Nat} {a : Nat} (hn : n ≤ 32) : En n f w a ↔ (a / 32 = w.length ∧ (decide (a % 32 < n) && f (a % 32)) = true) := by
  rw [Bool.and_eq_true, decide_eq_true_eq]
  constructor
  · rintro ⟨s, h1, h2, rfl⟩
    refine ⟨by omega, by omega, ?_⟩
    rw [show (32 * w.length + s) % 32 = s by omega]; exact h2
  · rintro ⟨h1, h2, h3⟩
    exact ⟨a % 32, h2, h3, by omega⟩
theorem ini_tm {Eg : Nat → Nat → Nat → Prop} {n : Nat} {f : Nat → Bool} {w : List Nat} {m : Mem} (hn : n ≤ 32) (h : ∀ a, a < 288 → m 99 a = nI (iniM n f w a)) : TM Eg (En n f w) m (iniM n f w) := by
  intro a ha
  refine ⟨h a ha, ?_, fun he => ?_⟩
  · by_cases c : a / 32 = w.length ∧ (decide (a % 32 < n) && f (a % 32)) = true
    · right
      have e : iniM n f w a = 0 := if_pos c
      rw [e]
      exact ⟨by omega, wy_en ((ini_en hn).mpr c)⟩
    · left
      exact ⟨if_neg c, fun he => c ((ini_en hn).mp he)⟩
  · exact if_pos ((ini_en hn).mp he)
theorem pb_eg {u : Bool} {L : ArL} {w : List Nat} {V0 V : Nat → Nat} (h : PB u L w V0 V L.length) {a c b : Nat} (hE : eU u L w a c b) (hlt : V0 b < 2000000000) : V a ≤ V0 b + c := by
  obtain ⟨y, p, hp, hE⟩ := hE
  rcases hE with ⟨q, hq, h1, rfl, rfl, _⟩ | ⟨q, hq, h1, rfl, rfl, _⟩ | ⟨s, hs, h1, _⟩
  · obtain ⟨h2, h3⟩ := st_bhd (w := w) (p := p) h1
    obtain ⟨j, hj⟩ := List.getElem?_of_mem hq
    have := h j q p p (List.getElem?_eq_some_iff.mp hj).1 hj hp h2 hlt
    omega
  · obtain ⟨h2, h3⟩ := rd_bhd h1
    obtain ⟨j, hj⟩ := List.getElem?_of_mem hq
    have := h j q p (p + 1) (List.getElem?_eq_some_iff.mp hj).1 hj hp h2 hlt
    omega
  · have := (cSk_lt h1).2.2
    exact absurd this (wU_lt u).1
/-- the model has its rests -/
def RT (m : Mem) (δ : Nat → Nat) : Prop := ∀ a, a < 288 → m 99 a = nI (mF δ a)
theorem mo_rests {N i n : Nat} {u : Bool} {f : Nat → Bool} {L : ArL} {w : List Nat} {δ : Nat → Nat} {m : Mem} (hN : 40000 < N) (hi : i < 24) (h : MSt m i n f L w) (hok : DOK n L) (hl : L.length ≤ 160) (hn : n ≤ 32) (hwl : w.length ≤ 8) (hwx : ∀ x, x ∈ w → x < 8) (hδ : IsD (eU u L w) (En n f w) δ) :
    ∃ m', F_X8_rests N m (nI i) (bI u) = some m' ∧ Fx 99 100 [] m m' ∧ RT m' δ := by
  have hb := eg_bd (way := wU u) (w := w) hwl hn hok
  have hms : ∀ m', Fx 99 100 [] m m' → MSt m' i n f L w := fun m' hf' => h.cg (fun k a b => hf'.1 k (by omega) (by omega)) (hf'.2 2 (by simp))
  unfold F_X8_rests
  refine loopF (fun g (m : Mem) c => L_X8_rests_2 N g m (nI i) (bI u) (nI c)) 288 (fun c m' => Fx 99 100 [] m m' ∧ ∀ a, a < c → m' 99 a = nI (iniM n f w a)) (fun o => ∃ m', o = some m' ∧ Fx 99 100 [] m m' ∧ RT m' δ) ?_ ?_ N 0 m (by omega) ⟨Fx.rf, fun a ha => absurd ha (Nat.not_lt_zero _)⟩ (by omega)
  · rintro g c m1 hc ⟨i1, i2⟩
    have h1 := hms m1 i1
    have e702 := h1.2.1
    have hdiv : nI c / nI 32 = nI (c / 32) := pk_div (by omega) (by omega) (by omega)
    have hrem : q_rem (nI c) (nI 32) = nI (c % 32) := pk_rem (by omega) (by omega) (by omega)
    have hend := mo_isEndOf (N := N) (s := c % 32) h1.1.2.1 hi hn (by omega)
    have hup : ∀ v, v = nI (iniM n f w c) → Fx 99 100 [] m (mup m1 99 c v) ∧ ∀ a, a < c + 1 → mup m1 99 c v 99 a = nI (iniM n f w a) := by
      intro v hv
      refine ⟨i1.up (by omega) (by omega) (by omega), fun a ha => ?_⟩
      rw [mup_if]
      by_cases e : a = c
      · rw [if_pos e, e, hv]
      · rw [if_neg e]; exact i2 a (by omega)
    left
    show ∃ s', _ ∧ S_X8_rests_2 N (L_X8_rests_2 N g) m1 (nI i) (bI u) (nI c) = _
    unfold S_X8_rests_2 B_X8_rests_41 B_X8_rests_44
    by_cases cl : c / 32 = w.length
    · cases hE : (decide (c % 32 < n) && f (c % 32)) with
      | false =>
        rw [hE] at hend
        refine ⟨_, hup (nI 2000000000) (by unfold iniM; rw [if_neg (fun h => by rw [hE] at h; exact absurd h.2 (by simp))]), ?_⟩
        simp (disch := omega) only [zi_t, zi_f, bnd_t, zg_in, zx, nI_ltI, nI_leI, nI_eq, nI_add, pk_mul, pk_sub, mup_s, mup_c, mup_j, mrw_c, if_pos, if_neg, zm_1, zm_2, zm_3, zm_4, zm_5, zm_6, zm_7, zm_8, zm_9, zf_0, zf_1, zf_2, zf_3, zf_4, zf_5, zf_6, zf_7, zf_8, zf_9, zf_10, zf_14, zf_15, zf_16, zf_18, zf_19, zf_20, zf_24, zf_30, zf_31, zf_32, zf_33, zf_99, zf_100, zf_160, zf_200, zf_287, zf_288, zf_300, zf_1000, zf_1023, zf_1024, zf_1600, zf_3840, zf_25600, zf_36000, zf_1000000, zf_1000000000, zf_2000000000, zf_11560, za_1, za_2, za_4, za_5, za_6, za_7, za_8, za_9, za_10, za_11, za_12, za_14, za_15, za_22, za_23, za_25, za_26, za_27, za_28, za_29, za_30, za_31, za_32, za_33, za_34, za_35, za_41, za_42, za_43, za_44, za_45, za_46, za_47, za_48, za_49, za_61, za_62, za_63, za_64, za_65, za_71, za_72, za_73, za_74, za_75, za_76, za_77, za_78, za_79, za_80, za_81, za_82, za_83, za_84, za_85, za_86, za_87, za_88, za_89, za_90, za_91, za_92, za_93, za_94, za_95, za_96, za_97, za_98, za_99, za_100, za_101, za_102, za_103, za_104, za_105, za_106, za_107, za_108, hdiv, hrem, e702]
        rw [cal_t hend]
        simp (disch := omega) only [zi_t, zi_f, bnd_t, zg_in, zx, nI_ltI, nI_leI, nI_eq, nI_add, pk_mul, pk_sub, mup_s, mup_c, mup_j, mrw_c, if_pos, if_neg, zm_1, zm_2, zm_3, zm_4, zm_5, zm_6, zm_7, zm_8, zm_9, zf_0, zf_1, zf_2, zf_3, zf_4, zf_5, zf_6, zf_7, zf_8, zf_9, zf_10, zf_14, zf_15, zf_16, zf_18, zf_19, zf_20, zf_24, zf_30, zf_31, zf_32, zf_33, zf_99, zf_100, zf_160, zf_200, zf_287, zf_288, zf_300, zf_1000, zf_1023, zf_1024, zf_1600, zf_3840, zf_25600, zf_36000, zf_1000000, zf_1000000000, zf_2000000000, zf_11560, za_1, za_2, za_4, za_5, za_6, za_7, za_8, za_9, za_10, za_11, za_12, za_14, za_15, za_22, za_23, za_25, za_26, za_27, za_28, za_29, za_30, za_31, za_32, za_33, za_34, za_35, za_41, za_42, za_43, za_44, za_45, za_46, za_47, za_48, za_49, za_61, za_62, za_63, za_64, za_65, za_71, za_72, za_73, za_74, za_75, za_76, za_77, za_78, za_79, za_80, za_81, za_82, za_83, za_84, za_85, za_86, za_87, za_88, za_89, za_90, za_91, za_92, za_93, za_94, za_95, za_96, za_97, za_98, za_99, za_100, za_101, za_102, za_103, za_104, za_105, za_106, za_107, za_108, bI_f]
      | true =>
        rw [hE] at hend
        refine ⟨_, hup (nI 0) (by unfold iniM; rw [if_pos ⟨cl, hE⟩]), ?_⟩
        simp (disch := omega) only [zi_t, zi_f, bnd_t, zg_in, zx, nI_ltI, nI_leI, nI_eq, nI_add, pk_mul, pk_sub, mup_s, mup_c, mup_j, mrw_c, if_pos, if_neg, zm_1, zm_2, zm_3, zm_4, zm_5, zm_6, zm_7, zm_8, zm_9, zf_0, zf_1, zf_2, zf_3, zf_4, zf_5, zf_6, zf_7, zf_8, zf_9, zf_10, zf_14, zf_15, zf_16, zf_18, zf_19, zf_20, zf_24, zf_30, zf_31, zf_32, zf_33, zf_99, zf_100, zf_160, zf_200, zf_287, zf_288, zf_300, zf_1000, zf_1023, zf_1024, zf_1600, zf_3840, zf_25600, zf_36000, zf_1000000, zf_1000000000, zf_2000000000, zf_11560, za_1, za_2, za_4, za_5, za_6, za_7, za_8, za_9, za_10, za_11, za_12, za_14, za_15, za_22, za_23, za_25, za_26, za_27, za_28, za_29, za_30, za_31, za_32, za_33, za_34, za_35, za_41, za_42, za_43, za_44, za_45, za_46, za_47, za_48, za_49, za_61, za_62, za_63, za_64, za_65, za_71, za_72, za_73, za_74, za_75, za_76, za_77, za_78, za_79, za_80, za_81, za_82, za_83, za_84, za_85, za_86, za_87, za_88, za_89, za_90, za_91, za_92, za_93, za_94, za_95, za_96, za_97, za_98, za_99, za_100, za_101, za_102, za_103, za_104, za_105, za_106, za_107, za_108, hdiv, hrem, e702]
        rw [cal_t hend]
        simp (disch := omega) only [zi_t, zi_f, bnd_t, zg_in, zx, nI_ltI, nI_leI, nI_eq, nI_add, pk_mul, pk_sub, mup_s, mup_c, mup_j, mrw_c, if_pos, if_neg, zm_1, zm_2, zm_3, zm_4, zm_5, zm_6, zm_7, zm_8, zm_9, zf_0, zf_1, zf_2, zf_3, zf_4, zf_5, zf_6, zf_7, zf_8, zf_9, zf_10, zf_14, zf_15, zf_16, zf_18, zf_19, zf_20, zf_24, zf_30, zf_31, zf_32, zf_33, zf_99, zf_100, zf_160, zf_200, zf_287, zf_288, zf_300, zf_1000, zf_1023, zf_1024, zf_1600, zf_3840, zf_25600, zf_36000, zf_1000000, zf_1000000000, zf_2000000000, zf_11560, za_1, za_2, za_4, za_5, za_6, za_7, za_8, za_9, za_10, za_11, za_12, za_14, za_15, za_22, za_23, za_25, za_26, za_27, za_28, za_29, za_30, za_31, za_32, za_33, za_34, za_35, za_41, za_42, za_43, za_44, za_45, za_46, za_47, za_48, za_49, za_61, za_62, za_63, za_64, za_65, za_71, za_72, za_73, za_74, za_75, za_76, za_77, za_78, za_79, za_80, za_81, za_82, za_83, za_84, za_85, za_86, za_87, za_88, za_89, za_90, za_91, za_92, za_93, za_94, za_95, za_96, za_97, za_98, za_99, za_100, za_101, za_102, za_103, za_104, za_105, za_106, za_107, za_108, bI_t]
    · refine ⟨_, hup (nI 2000000000) (by unfold iniM; rw [if_neg (fun h => cl h.1)]), ?_⟩
      simp (disch := omega) only [zi_t, zi_f, bnd_t, zg_in, zx, nI_ltI, nI_leI, nI_eq, nI_add, pk_mul, pk_sub, mup_s, mup_c, mup_j, mrw_c, if_pos, if_neg, zm_1, zm_2, zm_3, zm_4, zm_5, zm_6, zm_7, zm_8, zm_9, zf_0, zf_1, zf_2, zf_3, zf_4, zf_5, zf_6, zf_7, zf_8, zf_9, zf_10, zf_14, zf_15, zf_16, zf_18, zf_19, zf_20, zf_24, zf_30, zf_31, zf_32, zf_33, zf_99, zf_100, zf_160, zf_200, zf_287, zf_288, zf_300, zf_1000, zf_1023, zf_1024, zf_1600, zf_3840, zf_25600, zf_36000, zf_1000000, zf_1000000000, zf_2000000000, zf_11560, za_1, za_2, za_4, za_5, za_6, za_7, za_8, za_9, za_10, za_11, za_12, za_14, za_15, za_22, za_23, za_25, za_26, za_27, za_28, za_29, za_30, za_31, za_32, za_33, za_34, za_35, za_41, za_42, za_43, za_44, za_45, za_46, za_47, za_48, za_49, za_61, za_62, za_63, za_64, za_65, za_71, za_72, za_73, za_74, za_75, za_76, za_77, za_78, za_79, za_80, za_81, za_82, za_83, za_84, za_85, za_86, za_87, za_88, za_89, za_90, za_91, za_92, za_93, za_94, za_95, za_96, za_97, za_98, za_99, za_100, za_101, za_102, za_103, za_104, za_105, za_106, za_107, za_108, hdiv, hrem, e702]
  · rintro g m1 ⟨i1, i2⟩
    show ∃ m', S_X8_rests_2 N (L_X8_rests_2 N g) m1 (nI i) (bI u) (nI 288) = _ ∧ _
    unfold S_X8_rests_2
    simp (disch := omega) only [zi_t, zi_f, bnd_t, zg_in, zx, nI_ltI, nI_leI, nI_eq, nI_add, pk_mul, pk_sub, mup_s, mup_c, mup_j, mrw_c, if_pos, if_neg, zm_1, zm_2, zm_3, zm_4, zm_5, zm_6, zm_7, zm_8, zm_9, zf_0, zf_1, zf_2, zf_3, zf_4, zf_5, zf_6, zf_7, zf_8, zf_9, zf_10, zf_14, zf_15, zf_16, zf_18, zf_19, zf_20, zf_24, zf_30, zf_31, zf_32, zf_33, zf_99, zf_100, zf_160, zf_200, zf_287, zf_288, zf_300, zf_1000, zf_1023, zf_1024, zf_1600, zf_3840, zf_25600, zf_36000, zf_1000000, zf_1000000000, zf_2000000000, zf_11560, za_1, za_2, za_4, za_5, za_6, za_7, za_8, za_9, za_10, za_11, za_12, za_14, za_15, za_22, za_23, za_25, za_26, za_27, za_28, za_29, za_30, za_31, za_32, za_33, za_34, za_35, za_41, za_42, za_43, za_44, za_45, za_46, za_47, za_48, za_49, za_61, za_62, za_63, za_64, za_65, za_71, za_72, za_73, za_74, za_75, za_76, za_77, za_78, za_79, za_80, za_81, za_82, za_83, za_84, za_85, za_86, za_87, za_88, za_89, za_90, za_91, za_92, za_93, za_94, za_95, za_96, za_97, za_98, za_99, za_100, za_101, za_102, za_103, za_104, za_105, za_106, za_107, za_108]
    show ∃ m', L_X8_rests_53 N N m1 (nI i) (bI u) (bI true) = some m' ∧ Fx 99 100 [] m m' ∧ RT m' δ
    refine tm_while (N := N) (R := fun m' => Fx 99 100 [] m m') (Q := fun o => ∃ m', o = some m' ∧ Fx 99 100 [] m m' ∧ RT m' δ) hN hb hδ (ini_tm (Eg := eU u L w) hn i2) i1 (fun g m b => L_X8_rests_53 N g m (nI i) (bI u) (bI b)) ?_ ?_
    · intro g m2 V hV hR
      obtain ⟨m', V', fl, s1, s2, s3, s4, s5, s6, s7, s8⟩ := mo_rPass (N := N) (rec := L_X8_rests_53 N g) hN hi (hms m2 hR) hok hl hn hwl hwx hV hR
      refine ⟨m', V', fl, ?_, s2, s4, s5, fun a c b he hlt => pb_eg s6 he hlt, s7, s8⟩
      show S_X8_rests_53 N (L_X8_rests_53 N g) m2 (nI i) (bI u) (bI true) = _
      unfold S_X8_rests_53
      simp (disch := omega) only [zi_t, zi_f, bnd_t, zg_in, zx, nI_ltI, nI_leI, nI_eq, nI_add, pk_mul, pk_sub, mup_s, mup_c, mup_j, mrw_c, if_pos, if_neg, zm_1, zm_2, zm_3, zm_4, zm_5, zm_6, zm_7, zm_8, zm_9, zf_0, zf_1, zf_2, zf_3, zf_4, zf_5, zf_6, zf_7, zf_8, zf_9, zf_10, zf_14, zf_15, zf_16, zf_18, zf_19, zf_20, zf_24, zf_30, zf_31, zf_32, zf_33, zf_99, zf_100, zf_160, zf_200, zf_287, zf_288, zf_300, zf_1000, zf_1023, zf_1024, zf_1600, zf_3840, zf_25600, zf_36000, zf_1000000, zf_1000000000, zf_2000000000, zf_11560, za_1, za_2, za_4, za_5, za_6, za_7, za_8, za_9, za_10, za_11, za_12, za_14, za_15, za_22, za_23, za_25, za_26, za_27, za_28, za_29, za_30, za_31, za_32, za_33, za_34, za_35, za_41, za_42, za_43, za_44, za_45, za_46, za_47, za_48, za_49, za_61, za_62, za_63, za_64, za_65, za_71, za_72, za_73, za_74, za_75, za_76, za_77, za_78, za_79, za_80, za_81, za_82, za_83, za_84, za_85, za_86, za_87, za_88, za_89, za_90, za_91, za_92, za_93, za_94, za_95, za_96, za_97, za_98, za_99, za_100, za_101, za_102, za_103, za_104, za_105, za_106, za_107, za_108, bI_t]
      exact s1
    · intro g m2 hR hT
      refine ⟨m2, ?_, hR, hT⟩
      show S_X8_rests_53 N (L_X8_rests_53 N g) m2 (nI i) (bI u) (bI false) = _
      unfold S_X8_rests_53
      simp (disch := omega) only [zi_t, zi_f, bnd_t, zg_in, zx, nI_ltI, nI_leI, nI_eq, nI_add, pk_mul, pk_sub, mup_s, mup_c, mup_j, mrw_c, if_pos, if_neg, zm_1, zm_2, zm_3, zm_4, zm_5, zm_6, zm_7, zm_8, zm_9, zf_0, zf_1, zf_2, zf_3, zf_4, zf_5, zf_6, zf_7, zf_8, zf_9, zf_10, zf_14, zf_15, zf_16, zf_18, zf_19, zf_20, zf_24, zf_30, zf_31, zf_32, zf_33, zf_99, zf_100, zf_160, zf_200, zf_287, zf_288, zf_300, zf_1000, zf_1023, zf_1024, zf_1600, zf_3840, zf_25600, zf_36000, zf_1000000, zf_1000000000, zf_2000000000, zf_11560, za_1, za_2, za_4, za_5, za_6, za_7, za_8, za_9, za_10, za_11, za_12, za_14, za_15, za_22, za_23, za_25, za_26, za_27, za_28, za_29, za_30, za_31, za_32, za_33, za_34, za_35, za_41, za_42, za_43, za_44, za_45, za_46, za_47, za_48, za_49, za_61, za_62, za_63, za_64, za_65, za_71, za_72, za_73, za_74, za_75, za_76, za_77, za_78, za_79, za_80, za_81, za_82, za_83, za_84, za_85, za_86, za_87, za_88, za_89, za_90, za_91, za_92, za_93, za_94, za_95, za_96, za_97, za_98, za_99, za_100, za_101, za_102, za_103, za_104, za_105, za_106, za_107, za_108, bI_f]
