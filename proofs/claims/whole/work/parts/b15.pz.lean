def MP (m : Mem) (s : XS) (d' : Nat → Nat → Option Nat) : Prop := m 70 35 = nI s.1.length ∧ (∀ i p, s.1[i]? = some p → m 92 i = p.1 ∧ m 93 i = p.2) ∧ ∀ k x, k < s.1.length → x < 8 → m 94 (8 * k + x) = an (d' k x)
theorem mo_prunes {N : Nat} {m : Mem} {s : XS} {d : Nat → Nat → Option Nat} {wa u : Nat → Bool} (hN : 40000 < N) (h : MX m s (8 * s.1.length)) (hl : s.1.length ≤ 200) (hd : DOf s d) (hu : UOf d wa s.1.length u) (h97 : CRw m 97 s.1.length wa) :
    ∃ m', F_X8_prunes N m = some m' ∧ MP m' s (dpr d u) ∧ Fx 94 99 [] m m' ∧ m' 97 = m 97 ∧ m' 95 = m 95 ∧ m' 96 = m 96 := by
  unfold F_X8_prunes
  refine loopF (fun f (m : Mem) k => L_X8_prunes_4 N f m (nI 1) (nI k)) s.1.length (fun k m' => (∀ i, i < k → m' 98 i = bI (wa i)) ∧ Fx 98 99 [] m m') (fun o => ∃ m', o = some m' ∧ MP m' s (dpr d u) ∧ Fx 94 99 [] m m' ∧ m' 97 = m 97 ∧ m' 95 = m 95 ∧ m' 96 = m 96) ?_ ?_ N 0 m (Nat.zero_le _) ⟨fun i hi => absurd hi (Nat.not_lt_zero _), Fx.rf⟩ (by omega)
  · rintro f k m1 hk ⟨i1, i2⟩
    have h35 : m1 70 35 = nI s.1.length := by rw [i2.2 35 (by simp)]; exact h.1
    have e97 : m1 97 k = bI (wa k) := by rw [i2.1 97 (by omega) (by omega)]; exact h97 k hk
    refine Or.inl ⟨mup m1 98 k (bI (wa k)), ⟨fun i hi => ?_, i2.up (by omega) (by omega) (by omega)⟩, ?_⟩
    · rw [mup_if]
      by_cases e : i = k
      · rw [if_pos e, e]
      · rw [if_neg e]; exact i1 i (by omega)
    · show S_X8_prunes_4 N (L_X8_prunes_4 N f) m1 (nI 1) (nI k) = _
      unfold S_X8_prunes_4
      simp (disch := omega) only [zi_t, zi_f, bnd_t, zg_in, zx, nI_ltI, nI_leI, nI_eq, nI_add, pk_mul, pk_sub, mup_s, mup_c, mup_j, mrw_c, if_pos, if_neg, zm_1, zm_2, zm_3, zm_4, zm_5, zm_6, zm_7, zm_8, zm_9, zf_0, zf_1, zf_2, zf_3, zf_4, zf_5, zf_6, zf_7, zf_8, zf_9, zf_10, zf_14, zf_15, zf_16, zf_18, zf_19, zf_20, zf_24, zf_30, zf_31, zf_32, zf_33, zf_99, zf_100, zf_160, zf_200, zf_287, zf_288, zf_300, zf_1000, zf_1023, zf_1024, zf_1600, zf_3840, zf_25600, zf_36000, zf_1000000, zf_1000000000, zf_2000000000, zf_11560, za_1, za_2, za_4, za_5, za_6, za_7, za_8, za_9, za_10, za_11, za_12, za_14, za_15, za_22, za_23, za_25, za_26, za_27, za_28, za_29, za_30, za_31, za_32, za_33, za_34, za_35, za_41, za_42, za_43, za_44, za_45, za_46, za_47, za_48, za_49, za_61, za_62, za_63, za_64, za_65, za_71, za_72, za_73, za_74, za_75, za_76, za_77, za_78, za_79, za_80, za_81, za_82, za_83, za_84, za_85, za_86, za_87, za_88, za_89, za_90, za_91, za_92, za_93, za_94, za_95, za_96, za_97, za_98, za_99, za_100, za_101, za_102, za_103, za_104, za_105, za_106, za_107, za_108, h35, e97]
  · rintro f m1 ⟨i1, i2⟩
    have h35 : m1 70 35 = nI s.1.length := by rw [i2.2 35 (by simp)]; exact h.1
    show ∃ m', S_X8_prunes_4 N (L_X8_prunes_4 N f) m1 (nI 1) (nI s.1.length) = _ ∧ _
    unfold S_X8_prunes_4
    simp (disch := omega) only [zi_t, zi_f, bnd_t, zg_in, zx, nI_ltI, nI_leI, nI_eq, nI_add, pk_mul, pk_sub, mup_s, mup_c, mup_j, mrw_c, if_pos, if_neg, zm_1, zm_2, zm_3, zm_4, zm_5, zm_6, zm_7, zm_8, zm_9, zf_0, zf_1, zf_2, zf_3, zf_4, zf_5, zf_6, zf_7, zf_8, zf_9, zf_10, zf_14, zf_15, zf_16, zf_18, zf_19, zf_20, zf_24, zf_30, zf_31, zf_32, zf_33, zf_99, zf_100, zf_160, zf_200, zf_287, zf_288, zf_300, zf_1000, zf_1023, zf_1024, zf_1600, zf_3840, zf_25600, zf_36000, zf_1000000, zf_1000000000, zf_2000000000, zf_11560, za_1, za_2, za_4, za_5, za_6, za_7, za_8, za_9, za_10, za_11, za_12, za_14, za_15, za_22, za_23, za_25, za_26, za_27, za_28, za_29, za_30, za_31, za_32, za_33, za_34, za_35, za_41, za_42, za_43, za_44, za_45, za_46, za_47, za_48, za_49, za_61, za_62, za_63, za_64, za_65, za_71, za_72, za_73, za_74, za_75, za_76, za_77, za_78, za_79, za_80, za_81, za_82, za_83, za_84, za_85, za_86, za_87, za_88, za_89, za_90, za_91, za_92, za_93, za_94, za_95, za_96, za_97, za_98, za_99, za_100, za_101, za_102, za_103, za_104, za_105, za_106, za_107, za_108, h35]
    refine loopW (σ := Mem × (Nat → Bool) × Bool) (fun f x => L_X8_prunes_30 N f x.1 (bI x.2.2))
      (fun x => Fx 98 99 [] m x.1 ∧ CRw x.1 98 s.1.length x.2.1 ∧ (∀ i, i < s.1.length → x.2.1 i = true → u i = true) ∧ (∀ i, i < s.1.length → wa i = true → x.2.1 i = true) ∧ (x.2.2 = false → ∀ i j, dR d s.1.length i j → x.2.1 j = true → x.2.1 i = true)) (fun x => s.1.length - cnt x.2.1 s.1.length + if x.2.2 = true then 1 else 0)
      (fun o => ∃ m', o = some m' ∧ MP m' s (dpr d u) ∧ Fx 94 99 [] m m' ∧ m' 97 = m 97 ∧ m' 95 = m 95 ∧ m' 96 = m 96) ?_ N (m1, wa, true) ⟨i2, i1, fun i hi hw => uof_wa hu hi hw, fun i _ hw => hw, fun h => (by cases h)⟩ (by show s.1.length - cnt wa s.1.length + 1 < N; omega)
    rintro F ⟨m2, M, fl⟩ hI
    have hI : Fx 98 99 [] m m2 ∧ CRw m2 98 s.1.length M ∧ (∀ i, i < s.1.length → M i = true → u i = true) ∧ (∀ i, i < s.1.length → wa i = true → M i = true) ∧ (fl = false → ∀ i j, dR d s.1.length i j → M j = true → M i = true) := hI
    obtain ⟨j2, j3, j4, j5, j6⟩ := hI
    have hX2 : MX m2 s (8 * s.1.length) := h.off (j2.2 35 (by simp)) (fun k hk => j2.1 k (by omega) (by omega))
    cases fl with
    | true =>
      left
      obtain ⟨m3, M', fl, p1, p2, p3, p4, p5, p6, p7⟩ := mo_prPass (wa := wa) (rec := L_X8_prunes_30 N F) hN hX2 hl hd hu j3 j4
      have hle := cnt_le M' s.1.length
      refine ⟨(m3, M', fl), ⟨j2.tr p2, p3, p4, fun i hi hw => p5 i (j5 i hi hw), ?_⟩, ?_, ?_⟩
      · intro hfl
        obtain ⟨e, hc⟩ := p6 hfl
        show ∀ i j, dR d s.1.length i j → M' j = true → M' i = true
        rw [e]; exact hc
      · show s.1.length - cnt M' s.1.length + (if fl = true then 1 else 0) < s.1.length - cnt M s.1.length + (if true = true then 1 else 0)
        rw [if_pos (show true = true from rfl)]
        cases fl with
        | false =>
          rw [if_neg (by simp), (p6 rfl).1]; omega
        | true =>
          obtain ⟨i, hi, e1, e2⟩ := p7 rfl
          have := cnt_lt p5 e2 e1 s.1.length hi
          rw [if_pos (show true = true from rfl)]; omega
      · show S_X8_prunes_30 N (L_X8_prunes_30 N F) m2 (bI true) = _
        unfold S_X8_prunes_30
        simp (disch := omega) only [zi_t, zi_f, bnd_t, zg_in, zx, nI_ltI, nI_leI, nI_eq, nI_add, pk_mul, pk_sub, mup_s, mup_c, mup_j, mrw_c, if_pos, if_neg, zm_1, zm_2, zm_3, zm_4, zm_5, zm_6, zm_7, zm_8, zm_9, zf_0, zf_1, zf_2, zf_3, zf_4, zf_5, zf_6, zf_7, zf_8, zf_9, zf_10, zf_14, zf_15, zf_16, zf_18, zf_19, zf_20, zf_24, zf_30, zf_31, zf_32, zf_33, zf_99, zf_100, zf_160, zf_200, zf_287, zf_288, zf_300, zf_1000, zf_1023, zf_1024, zf_1600, zf_3840, zf_25600, zf_36000, zf_1000000, zf_1000000000, zf_2000000000, zf_11560, za_1, za_2, za_4, za_5, za_6, za_7, za_8, za_9, za_10, za_11, za_12, za_14, za_15, za_22, za_23, za_25, za_26, za_27, za_28, za_29, za_30, za_31, za_32, za_33, za_34, za_35, za_41, za_42, za_43, za_44, za_45, za_46, za_47, za_48, za_49, za_61, za_62, za_63, za_64, za_65, za_71, za_72, za_73, za_74, za_75, za_76, za_77, za_78, za_79, za_80, za_81, za_82, za_83, za_84, za_85, za_86, za_87, za_88, za_89, za_90, za_91, za_92, za_93, za_94, za_95, za_96, za_97, za_98, za_99, za_100, za_101, za_102, za_103, za_104, za_105, za_106, za_107, za_108, bI_t]
        exact p1
    | false =>
      right
      have hMu := uof_fix hu j4 j5 (j6 rfl)
      show ∃ m', S_X8_prunes_30 N (L_X8_prunes_30 N F) m2 (bI false) = _ ∧ _
      unfold S_X8_prunes_30
      simp (disch := omega) only [zi_t, zi_f, bnd_t, zg_in, zx, nI_ltI, nI_leI, nI_eq, nI_add, pk_mul, pk_sub, mup_s, mup_c, mup_j, mrw_c, if_pos, if_neg, zm_1, zm_2, zm_3, zm_4, zm_5, zm_6, zm_7, zm_8, zm_9, zf_0, zf_1, zf_2, zf_3, zf_4, zf_5, zf_6, zf_7, zf_8, zf_9, zf_10, zf_14, zf_15, zf_16, zf_18, zf_19, zf_20, zf_24, zf_30, zf_31, zf_32, zf_33, zf_99, zf_100, zf_160, zf_200, zf_287, zf_288, zf_300, zf_1000, zf_1023, zf_1024, zf_1600, zf_3840, zf_25600, zf_36000, zf_1000000, zf_1000000000, zf_2000000000, zf_11560, za_1, za_2, za_4, za_5, za_6, za_7, za_8, za_9, za_10, za_11, za_12, za_14, za_15, za_22, za_23, za_25, za_26, za_27, za_28, za_29, za_30, za_31, za_32, za_33, za_34, za_35, za_41, za_42, za_43, za_44, za_45, za_46, za_47, za_48, za_49, za_61, za_62, za_63, za_64, za_65, za_71, za_72, za_73, za_74, za_75, za_76, za_77, za_78, za_79, za_80, za_81, za_82, za_83, za_84, za_85, za_86, za_87, za_88, za_89, za_90, za_91, za_92, za_93, za_94, za_95, za_96, za_97, za_98, za_99, za_100, za_101, za_102, za_103, za_104, za_105, za_106, za_107, za_108, bI_f]
      refine loopF (fun f (m : Mem) y => L_X8_prunes_143 N f m (nI y)) (8 * s.1.length) (fun y m' => (∀ c, c ≠ 94 → m' c = m2 c) ∧ (∀ j, j < y → m' 94 j = an (dpr d u (j / 8) (j % 8))) ∧ ∀ j, y ≤ j → m' 94 j = m2 94 j) (fun o => ∃ m', o = some m' ∧ MP m' s (dpr d u) ∧ Fx 94 99 [] m m' ∧ m' 97 = m 97 ∧ m' 95 = m 95 ∧ m' 96 = m 96) ?_ ?_ N 0 m2 (Nat.zero_le _) ⟨fun _ _ => rfl, fun j hj => absurd hj (Nat.not_lt_zero _), fun _ _ => rfl⟩ (by omega)
      · rintro f y m4 hy ⟨k1, k2, k3⟩
        have hyk : y / 8 < s.1.length := by omega
        have hyx : y % 8 < 8 := by omega
        have hyy : 8 * (y / 8) + y % 8 = y := by omega
        obtain ⟨e1, e2⟩ := hd (y / 8) (y % 8) hyk hyx
        have h35' : m4 70 35 = nI s.1.length := by rw [k1 70 (by omega)]; exact hX2.1
        have e94 : m4 94 y = an (d (y / 8) (y % 8)) := by rw [k3 y (Nat.le_refl _), hX2.2.2.2.2 y hy, ← e1, hyy]
        have hup : ∀ v, v = an (dpr d u (y / 8) (y % 8)) → (∀ c, c ≠ 94 → mup m4 94 y v c = m2 c) ∧ (∀ j, j < y + 1 → mup m4 94 y v 94 j = an (dpr d u (j / 8) (j % 8))) ∧ ∀ j, y + 1 ≤ j → mup m4 94 y v 94 j = m2 94 j := by
          intro v hv
          refine ⟨fun c hc => by rw [mup_r hc, k1 c hc], fun j hj => ?_, fun j hj => by rw [mup_j (by omega)]; exact k3 j (by omega)⟩
          rw [mup_if]
          by_cases e : j = y
          · rw [if_pos e, e, hv]
          · rw [if_neg e]; exact k2 j (by omega)
        left
        show ∃ s', _ ∧ S_X8_prunes_143 N (L_X8_prunes_143 N f) m4 (nI y) = _
        unfold S_X8_prunes_143 B_X8_prunes_193 B_X8_prunes_194
        cases hdx : d (y / 8) (y % 8) with
        | none =>
          rw [hdx] at e94
          have e94 : m4 94 y = nM := e94
          refine ⟨mup m4 94 y nM, hup nM (by unfold dpr; rw [hdx]; rfl), ?_⟩
          simp (disch := omega) only [zi_t, zi_f, bnd_t, zg_in, zx, nI_ltI, nI_leI, nI_eq, nI_add, pk_mul, pk_sub, mup_s, mup_c, mup_j, mrw_c, if_pos, if_neg, zm_1, zm_2, zm_3, zm_4, zm_5, zm_6, zm_7, zm_8, zm_9, zf_0, zf_1, zf_2, zf_3, zf_4, zf_5, zf_6, zf_7, zf_8, zf_9, zf_10, zf_14, zf_15, zf_16, zf_18, zf_19, zf_20, zf_24, zf_30, zf_31, zf_32, zf_33, zf_99, zf_100, zf_160, zf_200, zf_287, zf_288, zf_300, zf_1000, zf_1023, zf_1024, zf_1600, zf_3840, zf_25600, zf_36000, zf_1000000, zf_1000000000, zf_2000000000, zf_11560, za_1, za_2, za_4, za_5, za_6, za_7, za_8, za_9, za_10, za_11, za_12, za_14, za_15, za_22, za_23, za_25, za_26, za_27, za_28, za_29, za_30, za_31, za_32, za_33, za_34, za_35, za_41, za_42, za_43, za_44, za_45, za_46, za_47, za_48, za_49, za_61, za_62, za_63, za_64, za_65, za_71, za_72, za_73, za_74, za_75, za_76, za_77, za_78, za_79, za_80, za_81, za_82, za_83, za_84, za_85, za_86, za_87, za_88, za_89, za_90, za_91, za_92, za_93, za_94, za_95, za_96, za_97, za_98, za_99, za_100, za_101, za_102, za_103, za_104, za_105, za_106, za_107, za_108, h35', e94]
        | some j =>
          rw [hdx] at e94
          have e94 : m4 94 y = nI j := e94
          have hj := e2 j hdx
          have e98 : m4 98 j = bI (u j) := by rw [k1 98 (by omega), j3 j hj, hMu j hj]
          cases huj : u j with
          | false =>
            rw [huj] at e98
            refine ⟨mup m4 94 y nM, hup nM (by unfold dpr; rw [hdx]; show nM = an (if u j = true then some j else none); rw [huj]; rfl), ?_⟩
            simp (disch := omega) only [zi_t, zi_f, bnd_t, zg_in, zx, nI_ltI, nI_leI, nI_eq, nI_add, pk_mul, pk_sub, mup_s, mup_c, mup_j, mrw_c, if_pos, if_neg, zm_1, zm_2, zm_3, zm_4, zm_5, zm_6, zm_7, zm_8, zm_9, zf_0, zf_1, zf_2, zf_3, zf_4, zf_5, zf_6, zf_7, zf_8, zf_9, zf_10, zf_14, zf_15, zf_16, zf_18, zf_19, zf_20, zf_24, zf_30, zf_31, zf_32, zf_33, zf_99, zf_100, zf_160, zf_200, zf_287, zf_288, zf_300, zf_1000, zf_1023, zf_1024, zf_1600, zf_3840, zf_25600, zf_36000, zf_1000000, zf_1000000000, zf_2000000000, zf_11560, za_1, za_2, za_4, za_5, za_6, za_7, za_8, za_9, za_10, za_11, za_12, za_14, za_15, za_22, za_23, za_25, za_26, za_27, za_28, za_29, za_30, za_31, za_32, za_33, za_34, za_35, za_41, za_42, za_43, za_44, za_45, za_46, za_47, za_48, za_49, za_61, za_62, za_63, za_64, za_65, za_71, za_72, za_73, za_74, za_75, za_76, za_77, za_78, za_79, za_80, za_81, za_82, za_83, za_84, za_85, za_86, za_87, za_88, za_89, za_90, za_91, za_92, za_93, za_94, za_95, za_96, za_97, za_98, za_99, za_100, za_101, za_102, za_103, za_104, za_105, za_106, za_107, za_108, h35', e94, e98, bI_f]
          | true =>
            rw [huj] at e98
            refine ⟨mup m4 94 y (nI j), hup (nI j) (by unfold dpr; rw [hdx]; show nI j = an (if u j = true then some j else none); rw [huj]; rfl), ?_⟩
            simp (disch := omega) only [zi_t, zi_f, bnd_t, zg_in, zx, nI_ltI, nI_leI, nI_eq, nI_add, pk_mul, pk_sub, mup_s, mup_c, mup_j, mrw_c, if_pos, if_neg, zm_1, zm_2, zm_3, zm_4, zm_5, zm_6, zm_7, zm_8, zm_9, zf_0, zf_1, zf_2, zf_3, zf_4, zf_5, zf_6, zf_7, zf_8, zf_9, zf_10, zf_14, zf_15, zf_16, zf_18, zf_19, zf_20, zf_24, zf_30, zf_31, zf_32, zf_33, zf_99, zf_100, zf_160, zf_200, zf_287, zf_288, zf_300, zf_1000, zf_1023, zf_1024, zf_1600, zf_3840, zf_25600, zf_36000, zf_1000000, zf_1000000000, zf_2000000000, zf_11560, za_1, za_2, za_4, za_5, za_6, za_7, za_8, za_9, za_10, za_11, za_12, za_14, za_15, za_22, za_23, za_25, za_26, za_27, za_28, za_29, za_30, za_31, za_32, za_33, za_34, za_35, za_41, za_42, za_43, za_44, za_45, za_46, za_47, za_48, za_49, za_61, za_62, za_63, za_64, za_65, za_71, za_72, za_73, za_74, za_75, za_76, za_77, za_78, za_79, za_80, za_81, za_82, za_83, za_84, za_85, za_86, za_87, za_88, za_89, za_90, za_91, za_92, za_93, za_94, za_95, za_96, za_97, za_98, za_99, za_100, za_101, za_102, za_103, za_104, za_105, za_106, za_107, za_108, h35', e94, e98, bI_t]
      · rintro f m4 ⟨k1, k2, k3⟩
        have h35' : m4 70 35 = nI s.1.length := by rw [k1 70 (by omega)]; exact hX2.1
        refine ⟨m4, ?_, ⟨h35', fun i p hp => ?_, fun k x hk hx => ?_⟩, ⟨fun c c1 c2 => ?_, fun j _ => ?_⟩, ?_, ?_, ?_⟩
        · show S_X8_prunes_143 N (L_X8_prunes_143 N f) m4 (nI (8 * s.1.length)) = _
          unfold S_X8_prunes_143
          simp (disch := omega) only [zi_t, zi_f, bnd_t, zg_in, zx, nI_ltI, nI_leI, nI_eq, nI_add, pk_mul, pk_sub, mup_s, mup_c, mup_j, mrw_c, if_pos, if_neg, zm_1, zm_2, zm_3, zm_4, zm_5, zm_6, zm_7, zm_8, zm_9, zf_0, zf_1, zf_2, zf_3, zf_4, zf_5, zf_6, zf_7, zf_8, zf_9, zf_10, zf_14, zf_15, zf_16, zf_18, zf_19, zf_20, zf_24, zf_30, zf_31, zf_32, zf_33, zf_99, zf_100, zf_160, zf_200, zf_287, zf_288, zf_300, zf_1000, zf_1023, zf_1024, zf_1600, zf_3840, zf_25600, zf_36000, zf_1000000, zf_1000000000, zf_2000000000, zf_11560, za_1, za_2, za_4, za_5, za_6, za_7, za_8, za_9, za_10, za_11, za_12, za_14, za_15, za_22, za_23, za_25, za_26, za_27, za_28, za_29, za_30, za_31, za_32, za_33, za_34, za_35, za_41, za_42, za_43, za_44, za_45, za_46, za_47, za_48, za_49, za_61, za_62, za_63, za_64, za_65, za_71, za_72, za_73, za_74, za_75, za_76, za_77, za_78, za_79, za_80, za_81, za_82, za_83, za_84, za_85, za_86, za_87, za_88, za_89, za_90, za_91, za_92, za_93, za_94, za_95, za_96, za_97, za_98, za_99, za_100, za_101, za_102, za_103, za_104, za_105, za_106, za_107, za_108, h35']
        · rw [k1 92 (by omega), k1 93 (by omega)]; exact hX2.2.1 i p hp
        · rw [k2 (8 * k + x) (by omega), show (8 * k + x) / 8 = k by omega, show (8 * k + x) % 8 = x by omega]
        · rw [k1 c (by omega), j2.1 c c1 (by omega)]
        · rw [k1 70 (by omega), j2.2 j (by simp)]
        · rw [k1 97 (by omega), j2.1 97 (by omega) (by omega)]
        · rw [k1 95 (by omega), j2.1 95 (by omega) (by omega)]
        · rw [k1 96 (by omega), j2.1 96 (by omega) (by omega)]
/-! numbers by the order in which kinds come -/
def fst1 (p : Nat → Bool) : Nat → Nat → Nat
  | 0, k => k
  | d + 1, k => if p k = true then k else fst1 p d (k + 1)
theorem fst1_spec {p : Nat → Bool} : ∀ d k, k ≤ fst1 p d k ∧ fst1 p d k ≤ k + d ∧ (fst1 p d k < k + d → p (fst1 p d k) = true) ∧ ∀ j, k ≤ j → j < fst1 p d k → p j = false
  | 0, k => ⟨Nat.le_refl _, Nat.le_refl _, fun h => absurd h (by show ¬ k < k + 0; omega), fun j h1 h2 => absurd h2 (by show ¬ j < k; omega)⟩
  | d + 1, k => by
    rw [fst1]
    by_cases c : p k = true
    · rw [if_pos c]
      exact ⟨Nat.le_refl _, by omega, fun _ => c, fun j h1 h2 => by omega⟩
    · rw [if_neg c]
      obtain ⟨h1, h2, h3, h4⟩ := fst1_spec (p := p) d (k + 1)
      refine ⟨by omega, by omega, fun h => h3 (by omega), fun j j1 j2 => ?_⟩
      by_cases e : j = k
      · rw [e]
        cases hp : p k with
        | false => rfl
        | true => exact absurd hp c
      · exact h4 j (by omega) j2
abbrev Sg : Type := Option Nat × List (Option Nat)
def rpF (sig : Nat → Sg) (U : Nat → Bool) (i : Nat) : Nat := fst1 (fun j => U j && decide (sig j = sig i)) i 0
def nwF (sig : Nat → Sg) (U : Nat → Bool) (i : Nat) : Bool := U i && decide (rpF sig U i = i)
def nmF (sig : Nat → Sg) (U : Nat → Bool) (i : Nat) : Nat := cnt (nwF sig U) (rpF sig U i)
theorem rp_spec {sig : Nat → Sg} {U : Nat → Bool} {i : Nat} (hi : U i = true) : rpF sig U i ≤ i ∧ U (rpF sig U i) = true ∧ sig (rpF sig U i) = sig i ∧ ∀ j, j < rpF sig U i → U j = true → sig j ≠ sig i := by
  obtain ⟨_, h2, h3, h4⟩ := fst1_spec (p := fun j => U j && decide (sig j = sig i)) i 0
  have h2 : rpF sig U i ≤ 0 + i := h2
  have h3 : rpF sig U i < 0 + i → (U (rpF sig U i) && decide (sig (rpF sig U i) = sig i)) = true := h3
  have h4 : ∀ j, 0 ≤ j → j < rpF sig U i → (U j && decide (sig j = sig i)) = false := h4
  have hp : U (rpF sig U i) = true ∧ sig (rpF sig U i) = sig i := by
    by_cases c : rpF sig U i < i
    · have := h3 (by omega)
      rw [Bool.and_eq_true, decide_eq_true_eq] at this
      exact this
    · have e : rpF sig U i = i := by omega
      rw [e]; exact ⟨hi, rfl⟩
  refine ⟨by omega, hp.1, hp.2, fun j hj hU he => ?_⟩
  have := h4 j (Nat.zero_le _) hj
  rw [hU, decide_eq_true he] at this
  cases this
theorem rp_of {sig : Nat → Sg} {U : Nat → Bool} {i k : Nat} (hi : U i = true) (hk : U k = true) (he : sig k = sig i) (hki : k ≤ i) (hf : ∀ j, j < k → U j = true → sig j ≠ sig i) : rpF sig U i = k := by
  obtain ⟨h1, h2, h3, h4⟩ := rp_spec (sig := sig) hi
  rcases Nat.lt_trichotomy (rpF sig U i) k with h | h | h
  · exact absurd h3 (hf _ h h2)
  · exact h
  · exact absurd he (h4 k h hk)
theorem rp_eq {sig : Nat → Sg} {U : Nat → Bool} {i j : Nat} (hi : U i = true) (hj : U j = true) : rpF sig U i = rpF sig U j ↔ sig i = sig j := by
  obtain ⟨a1, a2, a3, a4⟩ := rp_spec (sig := sig) hi
  obtain ⟨b1, b2, b3, b4⟩ := rp_spec (sig := sig) hj
  constructor
  · intro h; rw [← a3, h, b3]
  · intro h
    rcases Nat.lt_trichotomy (rpF sig U i) (rpF sig U j) with c | c | c
    · exact absurd (by rw [a3, h]) (b4 _ c a2)
    · exact c
    · exact absurd (by rw [b3, h]) (a4 _ c b2)
theorem nw_rp {sig : Nat → Sg} {U : Nat → Bool} {i : Nat} (hi : U i = true) : nwF sig U (rpF sig U i) = true := by
  obtain ⟨a1, a2, a3, a4⟩ := rp_spec (sig := sig) hi
  unfold nwF
  rw [a2, decide_eq_true ((rp_eq a2 hi).mpr a3)]; rfl
theorem nw_iff {sig : Nat → Sg} {U : Nat → Bool} {i : Nat} : nwF sig U i = true ↔ U i = true ∧ rpF sig U i = i := by
  unfold nwF
  rw [Bool.and_eq_true, decide_eq_true_eq]
theorem nw_iff' {sig : Nat → Sg} {U : Nat → Bool} {i : Nat} : nwF sig U i = true ↔ U i = true ∧ ∀ j, j < i → U j = true → sig j ≠ sig i := by
  rw [nw_iff]
  constructor
  · rintro ⟨h1, h2⟩
    obtain ⟨_, _, _, a4⟩ := rp_spec (sig := sig) h1
    rw [h2] at a4
    exact ⟨h1, a4⟩
  · rintro ⟨h1, h2⟩
    exact ⟨h1, rp_of h1 h1 rfl (Nat.le_refl _) h2⟩
theorem cnt_at {b : Nat → Bool} {i j : Nat} (hi : b i = true) (hij : i < j) : cnt b i < cnt b j := by
  have : ∀ k, cnt b i + 1 ≤ cnt b (i + 1 + k) := by
    intro k
    induction k with
    | zero =>
      show cnt b i + 1 ≤ cnt b i + (if b i = true then 1 else 0)
      rw [if_pos hi]; exact Nat.le_refl _
    | succ k ih =>
      show cnt b i + 1 ≤ cnt b (i + 1 + k) + (if b (i + 1 + k) = true then 1 else 0)
      omega
  have := this (j - (i + 1))
  rw [show i + 1 + (j - (i + 1)) = j by omega] at this
  omega
theorem nm_lt {sig : Nat → Sg} {U : Nat → Bool} {i j : Nat} (hi : U i = true) (hj : U j = true) : nmF sig U i < nmF sig U j ↔ rpF sig U i < rpF sig U j := by
  unfold nmF
  constructor
  · intro h
    rcases Nat.lt_trichotomy (rpF sig U i) (rpF sig U j) with c | c | c
    · exact c
    · rw [c] at h; exact absurd h (Nat.lt_irrefl _)
    · have := cnt_at (nw_rp (sig := sig) hj) c; omega
  · intro h; exact cnt_at (nw_rp (sig := sig) hi) h
theorem nm_eq {sig : Nat → Sg} {U : Nat → Bool} {i j : Nat} (hi : U i = true) (hj : U j = true) : nmF sig U i = nmF sig U j ↔ sig i = sig j := by
  rw [← rp_eq (sig := sig) hi hj]
  have h1 := nm_lt (sig := sig) hi hj
  have h2 := nm_lt (sig := sig) hj hi
  omega
theorem nm_ltc {sig : Nat → Sg} {U : Nat → Bool} {i c : Nat} (hi : U i = true) (hic : i < c) : nmF sig U i < cnt (nwF sig U) c := cnt_at (nw_rp (sig := sig) hi) (by have := (rp_spec (sig := sig) hi).1; omega)
theorem cnt_hit {b : Nat → Bool} : ∀ {n g : Nat}, g < cnt b n → ∃ i, i < n ∧ b i = true ∧ cnt b i = g
  | 0, g, h => absurd h (Nat.not_lt_zero _)
  | n + 1, g, h => by
    rw [cnt] at h
    by_cases c : g < cnt b n
    · obtain ⟨i, h1, h2, h3⟩ := cnt_hit c
      exact ⟨i, by omega, h2, h3⟩
    · by_cases hb : b n = true
      · rw [if_pos hb] at h
        exact ⟨n, by omega, hb, by omega⟩
      · rw [if_neg hb] at h; omega
theorem nm_nw {sig : Nat → Sg} {U : Nat → Bool} {i : Nat} (h : nwF sig U i = true) : nmF sig U i = cnt (nwF sig U) i := by
  unfold nmF
  rw [(nw_iff.mp h).2]
