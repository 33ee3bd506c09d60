/-! the model sorts -/
def SRow (m : Mem) (c : Nat) (S : Nat → Nat) : Prop := ∀ i, i < c → m 97 i = nI (S i) ∧ S i < 1000
theorem mo_areAlike {N i k : Nat} {m : Mem} {s : XS} {d : Nat → Nat → Option Nat} {S : Nat → Nat} (hN : 40000 < N) (h : MP m s d) (hl : s.1.length ≤ 200) (hdc : ∀ k x y, k < s.1.length → x < 8 → d k x = some y → y < s.1.length) (hS : SRow m s.1.length S) (hi : i < s.1.length) (hk : k < s.1.length) : F_X8_areAlike N m (nI i) (nI k) = some (bI (decide (sgM d S i = sgM d S k)), m) := by
  obtain ⟨ei, bi⟩ := hS i hi
  obtain ⟨ek, bk⟩ := hS k hk
  have hloop : ∀ b : Bool, (b = true ↔ S i = S k) → L_X8_areAlike_24 N N m (nI i) (nI k) (bI b) (nI 0) = some (bI (decide (sgM d S i = sgM d S k)), m) := by
    intro b hb
    refine loopF (σ := Bool) (fun f b x => L_X8_areAlike_24 N f m (nI i) (nI k) (bI b) (nI x)) 8 (fun x b => b = true ↔ (S i = S k ∧ ∀ y, y < x → sb d S i y = sb d S k y)) (fun o => o = some (bI (decide (sgM d S i = sgM d S k)), m)) ?_ ?_ N 0 b (Nat.zero_le _) ⟨fun h => ⟨hb.mp h, fun y hy => absurd hy (Nat.not_lt_zero _)⟩, fun h => hb.mpr h.1⟩ (by omega)
    · rintro f x b hx hI
      show (∃ s', _ ∧ S_X8_areAlike_24 N (L_X8_areAlike_24 N f) m (nI i) (nI k) (bI b) (nI x) = _) ∨ S_X8_areAlike_24 N (L_X8_areAlike_24 N f) m (nI i) (nI k) (bI b) (nI x) = _
      cases b with
      | false =>
        right
        rw [decide_eq_false (fun h => by have := hI.mpr ⟨(sgM_eq.mp h).1, fun y hy => (sgM_eq.mp h).2 y (by omega)⟩; cases this)]
        unfold S_X8_areAlike_24 B_X8_areAlike_112
        simp (disch := omega) only [zi_t, zi_f, bnd_t, zg_in, zx, nI_ltI, nI_leI, nI_eq, nI_add, pk_mul, pk_sub, mup_s, mup_c, mup_j, mrw_c, if_pos, if_neg, zm_1, zm_2, zm_3, zm_4, zm_5, zm_6, zm_7, zm_8, zm_9, zf_0, zf_1, zf_2, zf_3, zf_4, zf_5, zf_6, zf_7, zf_8, zf_9, zf_10, zf_14, zf_15, zf_16, zf_18, zf_19, zf_20, zf_24, zf_30, zf_31, zf_32, zf_33, zf_99, zf_100, zf_160, zf_200, zf_287, zf_288, zf_300, zf_1000, zf_1023, zf_1024, zf_1600, zf_3840, zf_25600, zf_36000, zf_1000000, zf_1000000000, zf_2000000000, zf_11560, za_1, za_2, za_4, za_5, za_6, za_7, za_8, za_9, za_10, za_11, za_12, za_14, za_15, za_22, za_23, za_25, za_26, za_27, za_28, za_29, za_30, za_31, za_32, za_33, za_34, za_35, za_41, za_42, za_43, za_44, za_45, za_46, za_47, za_48, za_49, za_61, za_62, za_63, za_64, za_65, za_71, za_72, za_73, za_74, za_75, za_76, za_77, za_78, za_79, za_80, za_81, za_82, za_83, za_84, za_85, za_86, za_87, za_88, za_89, za_90, za_91, za_92, za_93, za_94, za_95, za_96, za_97, za_98, za_99, za_100, za_101, za_102, za_103, za_104, za_105, za_106, za_107, za_108, bI_f, gd_t (show isb (nI 0) = true from rfl)]
      | true =>
        left
        have h1 := h.2.2 i x hi hx
        have h2 := h.2.2 k x hk hx
        obtain ⟨hSe, hy⟩ := hI.mp rfl
        refine ⟨decide (sb d S i x = sb d S k x), ?_, ?_⟩
        · rw [decide_eq_true_eq]
          constructor
          · intro e
            refine ⟨hSe, fun y hyx => ?_⟩
            by_cases c : y = x
            · rw [c]; exact e
            · exact hy y (by omega)
          · intro e; exact e.2 x (by omega)
        · unfold S_X8_areAlike_24 B_X8_areAlike_80 B_X8_areAlike_97 B_X8_areAlike_105
          cases hdi : d i x with
          | none =>
            rw [hdi] at h1
            have h1 : m 94 (8 * i + x) = nM := h1
            have si : sb d S i x = none := by unfold sb; rw [hdi]
            cases hdk : d k x with
            | none =>
              rw [hdk] at h2
              have h2 : m 94 (8 * k + x) = nM := h2
              have sk : sb d S k x = none := by unfold sb; rw [hdk]
              rw [si, sk, decide_eq_true rfl]
              simp (disch := omega) only [zi_t, zi_f, bnd_t, zg_in, zx, nI_ltI, nI_leI, nI_eq, nI_add, pk_mul, pk_sub, mup_s, mup_c, mup_j, mrw_c, if_pos, if_neg, zm_1, zm_2, zm_3, zm_4, zm_5, zm_6, zm_7, zm_8, zm_9, zf_0, zf_1, zf_2, zf_3, zf_4, zf_5, zf_6, zf_7, zf_8, zf_9, zf_10, zf_14, zf_15, zf_16, zf_18, zf_19, zf_20, zf_24, zf_30, zf_31, zf_32, zf_33, zf_99, zf_100, zf_160, zf_200, zf_287, zf_288, zf_300, zf_1000, zf_1023, zf_1024, zf_1600, zf_3840, zf_25600, zf_36000, zf_1000000, zf_1000000000, zf_2000000000, zf_11560, za_1, za_2, za_4, za_5, za_6, za_7, za_8, za_9, za_10, za_11, za_12, za_14, za_15, za_22, za_23, za_25, za_26, za_27, za_28, za_29, za_30, za_31, za_32, za_33, za_34, za_35, za_41, za_42, za_43, za_44, za_45, za_46, za_47, za_48, za_49, za_61, za_62, za_63, za_64, za_65, za_71, za_72, za_73, za_74, za_75, za_76, za_77, za_78, za_79, za_80, za_81, za_82, za_83, za_84, za_85, za_86, za_87, za_88, za_89, za_90, za_91, za_92, za_93, za_94, za_95, za_96, za_97, za_98, za_99, za_100, za_101, za_102, za_103, za_104, za_105, za_106, za_107, za_108, bI_t, h1, h2]
            | some z =>
              rw [hdk] at h2
              have h2 : m 94 (8 * k + x) = nI z := h2
              have hz := hdc k x z hk hx hdk
              obtain ⟨ez, bz⟩ := hS z hz
              have sk : sb d S k x = some (S z) := by unfold sb; rw [hdk]
              rw [si, sk, decide_eq_false (by simp)]
              simp (disch := omega) only [zi_t, zi_f, bnd_t, zg_in, zx, nI_ltI, nI_leI, nI_eq, nI_add, pk_mul, pk_sub, mup_s, mup_c, mup_j, mrw_c, if_pos, if_neg, zm_1, zm_2, zm_3, zm_4, zm_5, zm_6, zm_7, zm_8, zm_9, zf_0, zf_1, zf_2, zf_3, zf_4, zf_5, zf_6, zf_7, zf_8, zf_9, zf_10, zf_14, zf_15, zf_16, zf_18, zf_19, zf_20, zf_24, zf_30, zf_31, zf_32, zf_33, zf_99, zf_100, zf_160, zf_200, zf_287, zf_288, zf_300, zf_1000, zf_1023, zf_1024, zf_1600, zf_3840, zf_25600, zf_36000, zf_1000000, zf_1000000000, zf_2000000000, zf_11560, za_1, za_2, za_4, za_5, za_6, za_7, za_8, za_9, za_10, za_11, za_12, za_14, za_15, za_22, za_23, za_25, za_26, za_27, za_28, za_29, za_30, za_31, za_32, za_33, za_34, za_35, za_41, za_42, za_43, za_44, za_45, za_46, za_47, za_48, za_49, za_61, za_62, za_63, za_64, za_65, za_71, za_72, za_73, za_74, za_75, za_76, za_77, za_78, za_79, za_80, za_81, za_82, za_83, za_84, za_85, za_86, za_87, za_88, za_89, za_90, za_91, za_92, za_93, za_94, za_95, za_96, za_97, za_98, za_99, za_100, za_101, za_102, za_103, za_104, za_105, za_106, za_107, za_108, bI_t, bI_f, h1, h2, ez]
          | some y =>
            rw [hdi] at h1
            have h1 : m 94 (8 * i + x) = nI y := h1
            have hyc := hdc i x y hi hx hdi
            obtain ⟨ey, by'⟩ := hS y hyc
            have si : sb d S i x = some (S y) := by unfold sb; rw [hdi]
            cases hdk : d k x with
            | none =>
              rw [hdk] at h2
              have h2 : m 94 (8 * k + x) = nM := h2
              have sk : sb d S k x = none := by unfold sb; rw [hdk]
              rw [si, sk, decide_eq_false (by simp)]
              simp (disch := omega) only [zi_t, zi_f, bnd_t, zg_in, zx, nI_ltI, nI_leI, nI_eq, nI_add, pk_mul, pk_sub, mup_s, mup_c, mup_j, mrw_c, if_pos, if_neg, zm_1, zm_2, zm_3, zm_4, zm_5, zm_6, zm_7, zm_8, zm_9, zf_0, zf_1, zf_2, zf_3, zf_4, zf_5, zf_6, zf_7, zf_8, zf_9, zf_10, zf_14, zf_15, zf_16, zf_18, zf_19, zf_20, zf_24, zf_30, zf_31, zf_32, zf_33, zf_99, zf_100, zf_160, zf_200, zf_287, zf_288, zf_300, zf_1000, zf_1023, zf_1024, zf_1600, zf_3840, zf_25600, zf_36000, zf_1000000, zf_1000000000, zf_2000000000, zf_11560, za_1, za_2, za_4, za_5, za_6, za_7, za_8, za_9, za_10, za_11, za_12, za_14, za_15, za_22, za_23, za_25, za_26, za_27, za_28, za_29, za_30, za_31, za_32, za_33, za_34, za_35, za_41, za_42, za_43, za_44, za_45, za_46, za_47, za_48, za_49, za_61, za_62, za_63, za_64, za_65, za_71, za_72, za_73, za_74, za_75, za_76, za_77, za_78, za_79, za_80, za_81, za_82, za_83, za_84, za_85, za_86, za_87, za_88, za_89, za_90, za_91, za_92, za_93, za_94, za_95, za_96, za_97, za_98, za_99, za_100, za_101, za_102, za_103, za_104, za_105, za_106, za_107, za_108, bI_t, bI_f, h1, h2, ey]
            | some z =>
              rw [hdk] at h2
              have h2 : m 94 (8 * k + x) = nI z := h2
              have hz := hdc k x z hk hx hdk
              obtain ⟨ez, bz⟩ := hS z hz
              have sk : sb d S k x = some (S z) := by unfold sb; rw [hdk]
              rw [si, sk]
              by_cases c : S y = S z
              · have c' : (nI (S z) = nI (S y)) = True := by rw [c]; exact eq_self _
                rw [decide_eq_true (by rw [c])]
                simp (disch := omega) only [zi_t, zi_f, bnd_t, zg_in, zx, nI_ltI, nI_leI, nI_eq, nI_add, pk_mul, pk_sub, mup_s, mup_c, mup_j, mrw_c, if_pos, if_neg, zm_1, zm_2, zm_3, zm_4, zm_5, zm_6, zm_7, zm_8, zm_9, zf_0, zf_1, zf_2, zf_3, zf_4, zf_5, zf_6, zf_7, zf_8, zf_9, zf_10, zf_14, zf_15, zf_16, zf_18, zf_19, zf_20, zf_24, zf_30, zf_31, zf_32, zf_33, zf_99, zf_100, zf_160, zf_200, zf_287, zf_288, zf_300, zf_1000, zf_1023, zf_1024, zf_1600, zf_3840, zf_25600, zf_36000, zf_1000000, zf_1000000000, zf_2000000000, zf_11560, za_1, za_2, za_4, za_5, za_6, za_7, za_8, za_9, za_10, za_11, za_12, za_14, za_15, za_22, za_23, za_25, za_26, za_27, za_28, za_29, za_30, za_31, za_32, za_33, za_34, za_35, za_41, za_42, za_43, za_44, za_45, za_46, za_47, za_48, za_49, za_61, za_62, za_63, za_64, za_65, za_71, za_72, za_73, za_74, za_75, za_76, za_77, za_78, za_79, za_80, za_81, za_82, za_83, za_84, za_85, za_86, za_87, za_88, za_89, za_90, za_91, za_92, za_93, za_94, za_95, za_96, za_97, za_98, za_99, za_100, za_101, za_102, za_103, za_104, za_105, za_106, za_107, za_108, bI_t, h1, h2, ey, ez, c']
              · have c' : (nI (S z) = nI (S y)) = False := eq_false (fun h => c ((nI_eq (by omega) (by omega)).mp h).symm)
                rw [decide_eq_false (fun h => c (Option.some.inj h))]
                simp (disch := omega) only [zi_t, zi_f, bnd_t, zg_in, zx, nI_ltI, nI_leI, nI_eq, nI_add, pk_mul, pk_sub, mup_s, mup_c, mup_j, mrw_c, if_pos, if_neg, zm_1, zm_2, zm_3, zm_4, zm_5, zm_6, zm_7, zm_8, zm_9, zf_0, zf_1, zf_2, zf_3, zf_4, zf_5, zf_6, zf_7, zf_8, zf_9, zf_10, zf_14, zf_15, zf_16, zf_18, zf_19, zf_20, zf_24, zf_30, zf_31, zf_32, zf_33, zf_99, zf_100, zf_160, zf_200, zf_287, zf_288, zf_300, zf_1000, zf_1023, zf_1024, zf_1600, zf_3840, zf_25600, zf_36000, zf_1000000, zf_1000000000, zf_2000000000, zf_11560, za_1, za_2, za_4, za_5, za_6, za_7, za_8, za_9, za_10, za_11, za_12, za_14, za_15, za_22, za_23, za_25, za_26, za_27, za_28, za_29, za_30, za_31, za_32, za_33, za_34, za_35, za_41, za_42, za_43, za_44, za_45, za_46, za_47, za_48, za_49, za_61, za_62, za_63, za_64, za_65, za_71, za_72, za_73, za_74, za_75, za_76, za_77, za_78, za_79, za_80, za_81, za_82, za_83, za_84, za_85, za_86, za_87, za_88, za_89, za_90, za_91, za_92, za_93, za_94, za_95, za_96, za_97, za_98, za_99, za_100, za_101, za_102, za_103, za_104, za_105, za_106, za_107, za_108, bI_t, bI_f, h1, h2, ey, ez, c']
    · rintro f b hI
      have : b = decide (sgM d S i = sgM d S k) := by
        rw [Bool.eq_iff_iff, hI, decide_eq_true_eq, sgM_eq]
      rw [← this]
      show S_X8_areAlike_24 N (L_X8_areAlike_24 N f) m (nI i) (nI k) (bI b) (nI 8) = _
      unfold S_X8_areAlike_24 B_X8_areAlike_112
      simp (disch := omega) only [zi_t, zi_f, bnd_t, zg_in, zx, nI_ltI, nI_leI, nI_eq, nI_add, pk_mul, pk_sub, mup_s, mup_c, mup_j, mrw_c, if_pos, if_neg, zm_1, zm_2, zm_3, zm_4, zm_5, zm_6, zm_7, zm_8, zm_9, zf_0, zf_1, zf_2, zf_3, zf_4, zf_5, zf_6, zf_7, zf_8, zf_9, zf_10, zf_14, zf_15, zf_16, zf_18, zf_19, zf_20, zf_24, zf_30, zf_31, zf_32, zf_33, zf_99, zf_100, zf_160, zf_200, zf_287, zf_288, zf_300, zf_1000, zf_1023, zf_1024, zf_1600, zf_3840, zf_25600, zf_36000, zf_1000000, zf_1000000000, zf_2000000000, zf_11560, za_1, za_2, za_4, za_5, za_6, za_7, za_8, za_9, za_10, za_11, za_12, za_14, za_15, za_22, za_23, za_25, za_26, za_27, za_28, za_29, za_30, za_31, za_32, za_33, za_34, za_35, za_41, za_42, za_43, za_44, za_45, za_46, za_47, za_48, za_49, za_61, za_62, za_63, za_64, za_65, za_71, za_72, za_73, za_74, za_75, za_76, za_77, za_78, za_79, za_80, za_81, za_82, za_83, za_84, za_85, za_86, za_87, za_88, za_89, za_90, za_91, za_92, za_93, za_94, za_95, za_96, za_97, za_98, za_99, za_100, za_101, za_102, za_103, za_104, za_105, za_106, za_107, za_108, gd_t (bI_isb b)]
  unfold F_X8_areAlike B_X8_areAlike_20
  by_cases c : S i = S k
  · have c' : (nI (S i) = nI (S k)) = True := by rw [c]; exact eq_self _
    have := hloop true ⟨fun _ => c, fun _ => rfl⟩
    rw [bI_t] at this
    simp (disch := omega) only [zi_t, zi_f, bnd_t, zg_in, zx, nI_ltI, nI_leI, nI_eq, nI_add, pk_mul, pk_sub, mup_s, mup_c, mup_j, mrw_c, if_pos, if_neg, zm_1, zm_2, zm_3, zm_4, zm_5, zm_6, zm_7, zm_8, zm_9, zf_0, zf_1, zf_2, zf_3, zf_4, zf_5, zf_6, zf_7, zf_8, zf_9, zf_10, zf_14, zf_15, zf_16, zf_18, zf_19, zf_20, zf_24, zf_30, zf_31, zf_32, zf_33, zf_99, zf_100, zf_160, zf_200, zf_287, zf_288, zf_300, zf_1000, zf_1023, zf_1024, zf_1600, zf_3840, zf_25600, zf_36000, zf_1000000, zf_1000000000, zf_2000000000, zf_11560, za_1, za_2, za_4, za_5, za_6, za_7, za_8, za_9, za_10, za_11, za_12, za_14, za_15, za_22, za_23, za_25, za_26, za_27, za_28, za_29, za_30, za_31, za_32, za_33, za_34, za_35, za_41, za_42, za_43, za_44, za_45, za_46, za_47, za_48, za_49, za_61, za_62, za_63, za_64, za_65, za_71, za_72, za_73, za_74, za_75, za_76, za_77, za_78, za_79, za_80, za_81, za_82, za_83, za_84, za_85, za_86, za_87, za_88, za_89, za_90, za_91, za_92, za_93, za_94, za_95, za_96, za_97, za_98, za_99, za_100, za_101, za_102, za_103, za_104, za_105, za_106, za_107, za_108, ei, ek, c']
    exact this
  · have c' : (nI (S i) = nI (S k)) = False := eq_false (fun h => c ((nI_eq (by omega) (by omega)).mp h))
    have := hloop false ⟨fun h => (by cases h), fun h => absurd h c⟩
    rw [bI_f] at this
    simp (disch := omega) only [zi_t, zi_f, bnd_t, zg_in, zx, nI_ltI, nI_leI, nI_eq, nI_add, pk_mul, pk_sub, mup_s, mup_c, mup_j, mrw_c, if_pos, if_neg, zm_1, zm_2, zm_3, zm_4, zm_5, zm_6, zm_7, zm_8, zm_9, zf_0, zf_1, zf_2, zf_3, zf_4, zf_5, zf_6, zf_7, zf_8, zf_9, zf_10, zf_14, zf_15, zf_16, zf_18, zf_19, zf_20, zf_24, zf_30, zf_31, zf_32, zf_33, zf_99, zf_100, zf_160, zf_200, zf_287, zf_288, zf_300, zf_1000, zf_1023, zf_1024, zf_1600, zf_3840, zf_25600, zf_36000, zf_1000000, zf_1000000000, zf_2000000000, zf_11560, za_1, za_2, za_4, za_5, za_6, za_7, za_8, za_9, za_10, za_11, za_12, za_14, za_15, za_22, za_23, za_25, za_26, za_27, za_28, za_29, za_30, za_31, za_32, za_33, za_34, za_35, za_41, za_42, za_43, za_44, za_45, za_46, za_47, za_48, za_49, za_61, za_62, za_63, za_64, za_65, za_71, za_72, za_73, za_74, za_75, za_76, za_77, za_78, za_79, za_80, za_81, za_82, za_83, za_84, za_85, za_86, za_87, za_88, za_89, za_90, za_91, za_92, za_93, za_94, za_95, za_96, za_97, za_98, za_99, za_100, za_101, za_102, za_103, za_104, za_105, za_106, za_107, za_108, ei, ek, c']
    exact this
theorem mo_sorts {N : Nat} {m : Mem} {s : XS} {d : Nat → Nat → Option Nat} {S : Nat → Nat} (hN : 40000 < N) (h : MP m s d) (hl : s.1.length ≤ 200) (hdc : ∀ k x y, k < s.1.length → x < 8 → d k x = some y → y < s.1.length) (hS : SRow m s.1.length S) :
    ∃ m', F_X8_sorts N m = some (nI (cnt (nwF (sgM d S) (fun _ => true)) s.1.length), m') ∧ (∀ c, c ≠ 97 → c ≠ 98 → m' c = m c) ∧ SRow m' s.1.length (nmF (sgM d S) (fun _ => true)) := by
  obtain ⟨nw, hnw⟩ : ∃ nw, nw = nwF (sgM d S) (fun _ => true) := ⟨_, rfl⟩
  obtain ⟨nm, hnm⟩ : ∃ nm, nm = nmF (sgM d S) (fun _ => true) := ⟨_, rfl⟩
  rw [← hnw, ← hnm]
  have hle : ∀ k, cnt nw k ≤ k := cnt_le nw
  have hnl : ∀ k, k < s.1.length → nm k < 1000 := by
    intro k hk
    have := nm_ltc (sig := sgM d S) (U := fun _ => true) rfl hk
    rw [← hnm, ← hnw] at this
    have := hle s.1.length
    omega
  unfold F_X8_sorts
  refine loopF (fun f (m : Mem) k => L_X8_sorts_4 N f m (nI (cnt nw k)) (nI k)) s.1.length (fun k m' => (∀ c, c ≠ 98 → m' c = m c) ∧ ∀ i, i < k → m' 98 i = nI (nm i)) (fun o => ∃ m', o = some (nI (cnt nw s.1.length), m') ∧ (∀ c, c ≠ 97 → c ≠ 98 → m' c = m c) ∧ SRow m' s.1.length nm) ?_ ?_ N 0 m (Nat.zero_le _) ⟨fun _ _ => rfl, fun i hi => absurd hi (Nat.not_lt_zero _)⟩ (by omega)
  · rintro f k m1 hk ⟨i1, i2⟩
    have hkc := hle k
    left
    have h35 : m1 70 35 = nI s.1.length := by rw [i1 70 (by omega)]; exact h.1
    show ∃ s', _ ∧ S_X8_sorts_4 N (L_X8_sorts_4 N f) m1 (nI (cnt nw k)) (nI k) = L_X8_sorts_4 N f s' (nI (cnt nw (k + 1))) (nI (k + 1))
    unfold S_X8_sorts_4
    simp (disch := omega) only [zi_t, zi_f, bnd_t, zg_in, zx, nI_ltI, nI_leI, nI_eq, nI_add, pk_mul, pk_sub, mup_s, mup_c, mup_j, mrw_c, if_pos, if_neg, zm_1, zm_2, zm_3, zm_4, zm_5, zm_6, zm_7, zm_8, zm_9, zf_0, zf_1, zf_2, zf_3, zf_4, zf_5, zf_6, zf_7, zf_8, zf_9, zf_10, zf_14, zf_15, zf_16, zf_18, zf_19, zf_20, zf_24, zf_30, zf_31, zf_32, zf_33, zf_99, zf_100, zf_160, zf_200, zf_287, zf_288, zf_300, zf_1000, zf_1023, zf_1024, zf_1600, zf_3840, zf_25600, zf_36000, zf_1000000, zf_1000000000, zf_2000000000, zf_11560, za_1, za_2, za_4, za_5, za_6, za_7, za_8, za_9, za_10, za_11, za_12, za_14, za_15, za_22, za_23, za_25, za_26, za_27, za_28, za_29, za_30, za_31, za_32, za_33, za_34, za_35, za_41, za_42, za_43, za_44, za_45, za_46, za_47, za_48, za_49, za_61, za_62, za_63, za_64, za_65, za_71, za_72, za_73, za_74, za_75, za_76, za_77, za_78, za_79, za_80, za_81, za_82, za_83, za_84, za_85, za_86, za_87, za_88, za_89, za_90, za_91, za_92, za_93, za_94, za_95, za_96, za_97, za_98, za_99, za_100, za_101, za_102, za_103, za_104, za_105, za_106, za_107, za_108, h35]
    have h67 : ∀ m2 : Mem, (∀ c, c ≠ 98 → m2 c = m c) → (∀ i, i < k → m2 98 i = nI (nm i)) → ((m2 98 k = nM ∧ nw k = true) ∨ (m2 98 k = nI (nm k) ∧ nw k = false)) → ∃ s', ((∀ c, c ≠ 98 → s' c = m c) ∧ ∀ i, i < k + 1 → s' 98 i = nI (nm i)) ∧ B_X8_sorts_67 N (L_X8_sorts_4 N f) m2 (nI (cnt nw k)) (nI k) = L_X8_sorts_4 N f s' (nI (cnt nw (k + 1))) (nI (k + 1)) := by
      intro m2 a1 a2 a3
      have hcs : cnt nw (k + 1) = cnt nw k + if nw k = true then 1 else 0 := rfl
      unfold B_X8_sorts_67 B_X8_sorts_87
      rcases a3 with ⟨b1, b2⟩ | ⟨b1, b2⟩
      · rw [b2, if_pos rfl] at hcs
        have hk2 : nm k = cnt nw k := by rw [hnm, hnw] at *; exact nm_nw b2
        refine ⟨mup m2 98 k (nI (cnt nw k)), ⟨fun c hc => by rw [mup_r hc, a1 c hc], fun i hi => ?_⟩, ?_⟩
        · rw [mup_if]
          by_cases e : i = k
          · rw [if_pos e, e, hk2]
          · rw [if_neg e]; exact a2 i (by omega)
        · rw [hcs]
          simp (disch := omega) only [zi_t, zi_f, bnd_t, zg_in, zx, nI_ltI, nI_leI, nI_eq, nI_add, pk_mul, pk_sub, mup_s, mup_c, mup_j, mrw_c, if_pos, if_neg, zm_1, zm_2, zm_3, zm_4, zm_5, zm_6, zm_7, zm_8, zm_9, zf_0, zf_1, zf_2, zf_3, zf_4, zf_5, zf_6, zf_7, zf_8, zf_9, zf_10, zf_14, zf_15, zf_16, zf_18, zf_19, zf_20, zf_24, zf_30, zf_31, zf_32, zf_33, zf_99, zf_100, zf_160, zf_200, zf_287, zf_288, zf_300, zf_1000, zf_1023, zf_1024, zf_1600, zf_3840, zf_25600, zf_36000, zf_1000000, zf_1000000000, zf_2000000000, zf_11560, za_1, za_2, za_4, za_5, za_6, za_7, za_8, za_9, za_10, za_11, za_12, za_14, za_15, za_22, za_23, za_25, za_26, za_27, za_28, za_29, za_30, za_31, za_32, za_33, za_34, za_35, za_41, za_42, za_43, za_44, za_45, za_46, za_47, za_48, za_49, za_61, za_62, za_63, za_64, za_65, za_71, za_72, za_73, za_74, za_75, za_76, za_77, za_78, za_79, za_80, za_81, za_82, za_83, za_84, za_85, za_86, za_87, za_88, za_89, za_90, za_91, za_92, za_93, za_94, za_95, za_96, za_97, za_98, za_99, za_100, za_101, za_102, za_103, za_104, za_105, za_106, za_107, za_108, b1]
      · rw [b2, if_neg (by simp)] at hcs
        have := hnl k hk
        refine ⟨m2, ⟨a1, fun i hi => ?_⟩, ?_⟩
        · by_cases e : i = k
          · rw [e, b1]
          · exact a2 i (by omega)
        · rw [hcs, Nat.add_zero]
          simp (disch := omega) only [zi_t, zi_f, bnd_t, zg_in, zx, nI_ltI, nI_leI, nI_eq, nI_add, pk_mul, pk_sub, mup_s, mup_c, mup_j, mrw_c, if_pos, if_neg, zm_1, zm_2, zm_3, zm_4, zm_5, zm_6, zm_7, zm_8, zm_9, zf_0, zf_1, zf_2, zf_3, zf_4, zf_5, zf_6, zf_7, zf_8, zf_9, zf_10, zf_14, zf_15, zf_16, zf_18, zf_19, zf_20, zf_24, zf_30, zf_31, zf_32, zf_33, zf_99, zf_100, zf_160, zf_200, zf_287, zf_288, zf_300, zf_1000, zf_1023, zf_1024, zf_1600, zf_3840, zf_25600, zf_36000, zf_1000000, zf_1000000000, zf_2000000000, zf_11560, za_1, za_2, za_4, za_5, za_6, za_7, za_8, za_9, za_10, za_11, za_12, za_14, za_15, za_22, za_23, za_25, za_26, za_27, za_28, za_29, za_30, za_31, za_32, za_33, za_34, za_35, za_41, za_42, za_43, za_44, za_45, za_46, za_47, za_48, za_49, za_61, za_62, za_63, za_64, za_65, za_71, za_72, za_73, za_74, za_75, za_76, za_77, za_78, za_79, za_80, za_81, za_82, za_83, za_84, za_85, za_86, za_87, za_88, za_89, za_90, za_91, za_92, za_93, za_94, za_95, za_96, za_97, za_98, za_99, za_100, za_101, za_102, za_103, za_104, za_105, za_106, za_107, za_108, b1]
    refine loopF (σ := Mem × Bool) (fun g x i => L_X8_sorts_21 N (L_X8_sorts_4 N f) g x.1 (nI (cnt nw k)) (nI k) (nI i)) k (fun i x => (∀ c, c ≠ 98 → x.1 c = m c) ∧ (∀ i, i < k → x.1 98 i = nI (nm i)) ∧ ((x.2 = false ∧ x.1 98 k = nM ∧ ∀ j, j < i → sgM d S j ≠ sgM d S k) ∨ (x.2 = true ∧ x.1 98 k = nI (nm k) ∧ nw k = false))) (fun o => ∃ s', ((∀ c, c ≠ 98 → s' c = m c) ∧ ∀ i, i < k + 1 → s' 98 i = nI (nm i)) ∧ o = L_X8_sorts_4 N f s' (nI (cnt nw (k + 1))) (nI (k + 1))) ?_ ?_ N 0 (mup m1 98 k nM, false) (Nat.zero_le _) ⟨fun c hc => by show mup m1 98 k _ c = _; rw [mup_r hc, i1 c hc], fun i hi => by show mup m1 98 k _ 98 i = _; rw [mup_j (by omega)]; exact i2 i hi, Or.inl ⟨rfl, mup_s m1 98 k nM, fun j hj => absurd hj (Nat.not_lt_zero _)⟩⟩ (by omega)
    · rintro g i ⟨m2, b⟩ hi ⟨j1, j2, j3⟩
      dsimp only at j1 j2 j3
      show (∃ s' : Mem × Bool, _ ∧ S_X8_sorts_21 N (L_X8_sorts_4 N f) (L_X8_sorts_21 N (L_X8_sorts_4 N f) g) m2 (nI (cnt nw k)) (nI k) (nI i) = _) ∨ ∃ s', _ ∧ S_X8_sorts_21 N (L_X8_sorts_4 N f) (L_X8_sorts_21 N (L_X8_sorts_4 N f) g) m2 (nI (cnt nw k)) (nI k) (nI i) = _
      rcases j3 with ⟨_, b1, b2⟩ | ⟨_, b1, b2⟩
      · left
        have hP : MP m2 s d := ⟨by rw [j1 70 (by omega)]; exact h.1, fun i p hp => by rw [j1 92 (by omega), j1 93 (by omega)]; exact h.2.1 i p hp, fun k x hk hx => by rw [j1 94 (by omega)]; exact h.2.2 k x hk hx⟩
        have hS2 : SRow m2 s.1.length S := fun i hi => by rw [j1 97 (by omega)]; exact hS i hi
        have hal := mo_areAlike (N := N) hN hP hl hdc hS2 (by omega : i < s.1.length) hk
        by_cases e : sgM d S i = sgM d S k
        · rw [decide_eq_true e] at hal
          have hnk : nw k = false := by
            cases hn : nw k with
            | false => rfl
            | true => rw [hnw] at hn; exact absurd e ((nw_iff'.mp hn).2 i hi rfl)
          have hni : nm i = nm k := by rw [hnm]; exact (nm_eq rfl rfl).mpr e
          refine ⟨(mup m2 98 k (nI (nm k)), true), ⟨fun c hc => by show mup m2 98 k _ c = _; rw [mup_r hc, j1 c hc], fun i hi => by show mup m2 98 k _ 98 i = _; rw [mup_j (by omega)]; exact j2 i hi, Or.inr ⟨rfl, mup_s m2 98 k (nI (nm k)), hnk⟩⟩, ?_⟩
          have e98 := j2 i hi
          rw [hni] at e98
          unfold S_X8_sorts_21 B_X8_sorts_60
          simp (disch := omega) only [zi_t, zi_f, bnd_t, zg_in, zx, nI_ltI, nI_leI, nI_eq, nI_add, pk_mul, pk_sub, mup_s, mup_c, mup_j, mrw_c, if_pos, if_neg, zm_1, zm_2, zm_3, zm_4, zm_5, zm_6, zm_7, zm_8, zm_9, zf_0, zf_1, zf_2, zf_3, zf_4, zf_5, zf_6, zf_7, zf_8, zf_9, zf_10, zf_14, zf_15, zf_16, zf_18, zf_19, zf_20, zf_24, zf_30, zf_31, zf_32, zf_33, zf_99, zf_100, zf_160, zf_200, zf_287, zf_288, zf_300, zf_1000, zf_1023, zf_1024, zf_1600, zf_3840, zf_25600, zf_36000, zf_1000000, zf_1000000000, zf_2000000000, zf_11560, za_1, za_2, za_4, za_5, za_6, za_7, za_8, za_9, za_10, za_11, za_12, za_14, za_15, za_22, za_23, za_25, za_26, za_27, za_28, za_29, za_30, za_31, za_32, za_33, za_34, za_35, za_41, za_42, za_43, za_44, za_45, za_46, za_47, za_48, za_49, za_61, za_62, za_63, za_64, za_65, za_71, za_72, za_73, za_74, za_75, za_76, za_77, za_78, za_79, za_80, za_81, za_82, za_83, za_84, za_85, za_86, za_87, za_88, za_89, za_90, za_91, za_92, za_93, za_94, za_95, za_96, za_97, za_98, za_99, za_100, za_101, za_102, za_103, za_104, za_105, za_106, za_107, za_108, b1]
          rw [cal_t hal]
          simp (disch := omega) only [zi_t, zi_f, bnd_t, zg_in, zx, nI_ltI, nI_leI, nI_eq, nI_add, pk_mul, pk_sub, mup_s, mup_c, mup_j, mrw_c, if_pos, if_neg, zm_1, zm_2, zm_3, zm_4, zm_5, zm_6, zm_7, zm_8, zm_9, zf_0, zf_1, zf_2, zf_3, zf_4, zf_5, zf_6, zf_7, zf_8, zf_9, zf_10, zf_14, zf_15, zf_16, zf_18, zf_19, zf_20, zf_24, zf_30, zf_31, zf_32, zf_33, zf_99, zf_100, zf_160, zf_200, zf_287, zf_288, zf_300, zf_1000, zf_1023, zf_1024, zf_1600, zf_3840, zf_25600, zf_36000, zf_1000000, zf_1000000000, zf_2000000000, zf_11560, za_1, za_2, za_4, za_5, za_6, za_7, za_8, za_9, za_10, za_11, za_12, za_14, za_15, za_22, za_23, za_25, za_26, za_27, za_28, za_29, za_30, za_31, za_32, za_33, za_34, za_35, za_41, za_42, za_43, za_44, za_45, za_46, za_47, za_48, za_49, za_61, za_62, za_63, za_64, za_65, za_71, za_72, za_73, za_74, za_75, za_76, za_77, za_78, za_79, za_80, za_81, za_82, za_83, za_84, za_85, za_86, za_87, za_88, za_89, za_90, za_91, za_92, za_93, za_94, za_95, za_96, za_97, za_98, za_99, za_100, za_101, za_102, za_103, za_104, za_105, za_106, za_107, za_108, bI_t, e98]
        · rw [decide_eq_false e] at hal
          refine ⟨(mup m2 98 k nM, false), ⟨fun c hc => by show mup m2 98 k _ c = _; rw [mup_r hc, j1 c hc], fun i hi => by show mup m2 98 k _ 98 i = _; rw [mup_j (by omega)]; exact j2 i hi, Or.inl ⟨rfl, mup_s m2 98 k nM, fun j hj => ?_⟩⟩, ?_⟩
          · by_cases ej : j = i
            · rw [ej]; exact e
            · exact b2 j (by omega)
          · unfold S_X8_sorts_21 B_X8_sorts_60
            simp (disch := omega) only [zi_t, zi_f, bnd_t, zg_in, zx, nI_ltI, nI_leI, nI_eq, nI_add, pk_mul, pk_sub, mup_s, mup_c, mup_j, mrw_c, if_pos, if_neg, zm_1, zm_2, zm_3, zm_4, zm_5, zm_6, zm_7, zm_8, zm_9, zf_0, zf_1, zf_2, zf_3, zf_4, zf_5, zf_6, zf_7, zf_8, zf_9, zf_10, zf_14, zf_15, zf_16, zf_18, zf_19, zf_20, zf_24, zf_30, zf_31, zf_32, zf_33, zf_99, zf_100, zf_160, zf_200, zf_287, zf_288, zf_300, zf_1000, zf_1023, zf_1024, zf_1600, zf_3840, zf_25600, zf_36000, zf_1000000, zf_1000000000, zf_2000000000, zf_11560, za_1, za_2, za_4, za_5, za_6, za_7, za_8, za_9, za_10, za_11, za_12, za_14, za_15, za_22, za_23, za_25, za_26, za_27, za_28, za_29, za_30, za_31, za_32, za_33, za_34, za_35, za_41, za_42, za_43, za_44, za_45, za_46, za_47, za_48, za_49, za_61, za_62, za_63, za_64, za_65, za_71, za_72, za_73, za_74, za_75, za_76, za_77, za_78, za_79, za_80, za_81, za_82, za_83, za_84, za_85, za_86, za_87, za_88, za_89, za_90, za_91, za_92, za_93, za_94, za_95, za_96, za_97, za_98, za_99, za_100, za_101, za_102, za_103, za_104, za_105, za_106, za_107, za_108, b1]
            rw [cal_t hal]
            simp (disch := omega) only [zi_t, zi_f, bnd_t, zg_in, zx, nI_ltI, nI_leI, nI_eq, nI_add, pk_mul, pk_sub, mup_s, mup_c, mup_j, mrw_c, if_pos, if_neg, zm_1, zm_2, zm_3, zm_4, zm_5, zm_6, zm_7, zm_8, zm_9, zf_0, zf_1, zf_2, zf_3, zf_4, zf_5, zf_6, zf_7, zf_8, zf_9, zf_10, zf_14, zf_15, zf_16, zf_18, zf_19, zf_20, zf_24, zf_30, zf_31, zf_32, zf_33, zf_99, zf_100, zf_160, zf_200, zf_287, zf_288, zf_300, zf_1000, zf_1023, zf_1024, zf_1600, zf_3840, zf_25600, zf_36000, zf_1000000, zf_1000000000, zf_2000000000, zf_11560, za_1, za_2, za_4, za_5, za_6, za_7, za_8, za_9, za_10, za_11, za_12, za_14, za_15, za_22, za_23, za_25, za_26, za_27, za_28, za_29, za_30, za_31, za_32, za_33, za_34, za_35, za_41, za_42, za_43, za_44, za_45, za_46, za_47, za_48, za_49, za_61, za_62, za_63, za_64, za_65, za_71, za_72, za_73, za_74, za_75, za_76, za_77, za_78, za_79, za_80, za_81, za_82, za_83, za_84, za_85, za_86, za_87, za_88, za_89, za_90, za_91, za_92, za_93, za_94, za_95, za_96, za_97, za_98, za_99, za_100, za_101, za_102, za_103, za_104, za_105, za_106, za_107, za_108, bI_f]
      · right
        obtain ⟨s', p1, p2⟩ := h67 m2 j1 j2 (Or.inr ⟨b1, b2⟩)
        have := hnl k hk
        refine ⟨s', p1, ?_⟩
        rw [← p2]
        unfold S_X8_sorts_21
        simp (disch := omega) only [zi_t, zi_f, bnd_t, zg_in, zx, nI_ltI, nI_leI, nI_eq, nI_add, pk_mul, pk_sub, mup_s, mup_c, mup_j, mrw_c, if_pos, if_neg, zm_1, zm_2, zm_3, zm_4, zm_5, zm_6, zm_7, zm_8, zm_9, zf_0, zf_1, zf_2, zf_3, zf_4, zf_5, zf_6, zf_7, zf_8, zf_9, zf_10, zf_14, zf_15, zf_16, zf_18, zf_19, zf_20, zf_24, zf_30, zf_31, zf_32, zf_33, zf_99, zf_100, zf_160, zf_200, zf_287, zf_288, zf_300, zf_1000, zf_1023, zf_1024, zf_1600, zf_3840, zf_25600, zf_36000, zf_1000000, zf_1000000000, zf_2000000000, zf_11560, za_1, za_2, za_4, za_5, za_6, za_7, za_8, za_9, za_10, za_11, za_12, za_14, za_15, za_22, za_23, za_25, za_26, za_27, za_28, za_29, za_30, za_31, za_32, za_33, za_34, za_35, za_41, za_42, za_43, za_44, za_45, za_46, za_47, za_48, za_49, za_61, za_62, za_63, za_64, za_65, za_71, za_72, za_73, za_74, za_75, za_76, za_77, za_78, za_79, za_80, za_81, za_82, za_83, za_84, za_85, za_86, za_87, za_88, za_89, za_90, za_91, za_92, za_93, za_94, za_95, za_96, za_97, za_98, za_99, za_100, za_101, za_102, za_103, za_104, za_105, za_106, za_107, za_108, b1]
    · rintro g ⟨m2, b⟩ ⟨j1, j2, j3⟩
      dsimp only at j1 j2 j3
      have hr : (m2 98 k = nM ∧ nw k = true) ∨ (m2 98 k = nI (nm k) ∧ nw k = false) := by
        rcases j3 with ⟨_, b1, b2⟩ | ⟨_, b1, b2⟩
        · exact Or.inl ⟨b1, by rw [hnw]; exact nw_iff'.mpr ⟨rfl, fun j hj _ => b2 j hj⟩⟩
        · exact Or.inr ⟨b1, b2⟩
      obtain ⟨s', p1, p2⟩ := h67 m2 j1 j2 hr
      refine ⟨s', p1, ?_⟩
      rw [← p2]
      show S_X8_sorts_21 N (L_X8_sorts_4 N f) (L_X8_sorts_21 N (L_X8_sorts_4 N f) g) m2 (nI (cnt nw k)) (nI k) (nI k) = _
      unfold S_X8_sorts_21
      simp (disch := omega) only [zi_t, zi_f, bnd_t, zg_in, zx, nI_ltI, nI_leI, nI_eq, nI_add, pk_mul, pk_sub, mup_s, mup_c, mup_j, mrw_c, if_pos, if_neg, zm_1, zm_2, zm_3, zm_4, zm_5, zm_6, zm_7, zm_8, zm_9, zf_0, zf_1, zf_2, zf_3, zf_4, zf_5, zf_6, zf_7, zf_8, zf_9, zf_10, zf_14, zf_15, zf_16, zf_18, zf_19, zf_20, zf_24, zf_30, zf_31, zf_32, zf_33, zf_99, zf_100, zf_160, zf_200, zf_287, zf_288, zf_300, zf_1000, zf_1023, zf_1024, zf_1600, zf_3840, zf_25600, zf_36000, zf_1000000, zf_1000000000, zf_2000000000, zf_11560, za_1, za_2, za_4, za_5, za_6, za_7, za_8, za_9, za_10, za_11, za_12, za_14, za_15, za_22, za_23, za_25, za_26, za_27, za_28, za_29, za_30, za_31, za_32, za_33, za_34, za_35, za_41, za_42, za_43, za_44, za_45, za_46, za_47, za_48, za_49, za_61, za_62, za_63, za_64, za_65, za_71, za_72, za_73, za_74, za_75, za_76, za_77, za_78, za_79, za_80, za_81, za_82, za_83, za_84, za_85, za_86, za_87, za_88, za_89, za_90, za_91, za_92, za_93, za_94, za_95, za_96, za_97, za_98, za_99, za_100, za_101, za_102, za_103, za_104, za_105, za_106, za_107, za_108]
  · rintro f m1 ⟨i1, i2⟩
    have h35 : m1 70 35 = nI s.1.length := by rw [i1 70 (by omega)]; exact h.1
    have hkc := hle s.1.length
    show ∃ m', S_X8_sorts_4 N (L_X8_sorts_4 N f) m1 (nI (cnt nw s.1.length)) (nI s.1.length) = _ ∧ _
    unfold S_X8_sorts_4
    simp (disch := omega) only [zi_t, zi_f, bnd_t, zg_in, zx, nI_ltI, nI_leI, nI_eq, nI_add, pk_mul, pk_sub, mup_s, mup_c, mup_j, mrw_c, if_pos, if_neg, zm_1, zm_2, zm_3, zm_4, zm_5, zm_6, zm_7, zm_8, zm_9, zf_0, zf_1, zf_2, zf_3, zf_4, zf_5, zf_6, zf_7, zf_8, zf_9, zf_10, zf_14, zf_15, zf_16, zf_18, zf_19, zf_20, zf_24, zf_30, zf_31, zf_32, zf_33, zf_99, zf_100, zf_160, zf_200, zf_287, zf_288, zf_300, zf_1000, zf_1023, zf_1024, zf_1600, zf_3840, zf_25600, zf_36000, zf_1000000, zf_1000000000, zf_2000000000, zf_11560, za_1, za_2, za_4, za_5, za_6, za_7, za_8, za_9, za_10, za_11, za_12, za_14, za_15, za_22, za_23, za_25, za_26, za_27, za_28, za_29, za_30, za_31, za_32, za_33, za_34, za_35, za_41, za_42, za_43, za_44, za_45, za_46, za_47, za_48, za_49, za_61, za_62, za_63, za_64, za_65, za_71, za_72, za_73, za_74, za_75, za_76, za_77, za_78, za_79, za_80, za_81, za_82, za_83, za_84, za_85, za_86, za_87, za_88, za_89, za_90, za_91, za_92, za_93, za_94, za_95, za_96, za_97, za_98, za_99, za_100, za_101, za_102, za_103, za_104, za_105, za_106, za_107, za_108, h35]
    refine loopF (fun f (m : Mem) k => L_X8_sorts_95 N f m (nI (cnt nw s.1.length)) (nI k)) s.1.length (fun k m' => (∀ c, c ≠ 97 → m' c = m1 c) ∧ ∀ i, i < k → m' 97 i = nI (nm i)) (fun o => ∃ m', o = some (nI (cnt nw s.1.length), m') ∧ (∀ c, c ≠ 97 → c ≠ 98 → m' c = m c) ∧ SRow m' s.1.length nm) ?_ ?_ N 0 m1 (Nat.zero_le _) ⟨fun _ _ => rfl, fun i hi => absurd hi (Nat.not_lt_zero _)⟩ (by omega)
    · rintro f k m2 hk ⟨j1, j2⟩
      have h35' : m2 70 35 = nI s.1.length := by rw [j1 70 (by omega)]; exact h35
      have e98 : m2 98 k = nI (nm k) := by rw [j1 98 (by omega)]; exact i2 k hk
      refine Or.inl ⟨mup m2 97 k (nI (nm k)), ⟨fun c hc => by rw [mup_r hc, j1 c hc], fun i hi => ?_⟩, ?_⟩
      · rw [mup_if]
        by_cases e : i = k
        · rw [if_pos e, e]
        · rw [if_neg e]; exact j2 i (by omega)
      · show S_X8_sorts_95 N (L_X8_sorts_95 N f) m2 _ (nI k) = _
        unfold S_X8_sorts_95
        simp (disch := omega) only [zi_t, zi_f, bnd_t, zg_in, zx, nI_ltI, nI_leI, nI_eq, nI_add, pk_mul, pk_sub, mup_s, mup_c, mup_j, mrw_c, if_pos, if_neg, zm_1, zm_2, zm_3, zm_4, zm_5, zm_6, zm_7, zm_8, zm_9, zf_0, zf_1, zf_2, zf_3, zf_4, zf_5, zf_6, zf_7, zf_8, zf_9, zf_10, zf_14, zf_15, zf_16, zf_18, zf_19, zf_20, zf_24, zf_30, zf_31, zf_32, zf_33, zf_99, zf_100, zf_160, zf_200, zf_287, zf_288, zf_300, zf_1000, zf_1023, zf_1024, zf_1600, zf_3840, zf_25600, zf_36000, zf_1000000, zf_1000000000, zf_2000000000, zf_11560, za_1, za_2, za_4, za_5, za_6, za_7, za_8, za_9, za_10, za_11, za_12, za_14, za_15, za_22, za_23, za_25, za_26, za_27, za_28, za_29, za_30, za_31, za_32, za_33, za_34, za_35, za_41, za_42, za_43, za_44, za_45, za_46, za_47, za_48, za_49, za_61, za_62, za_63, za_64, za_65, za_71, za_72, za_73, za_74, za_75, za_76, za_77, za_78, za_79, za_80, za_81, za_82, za_83, za_84, za_85, za_86, za_87, za_88, za_89, za_90, za_91, za_92, za_93, za_94, za_95, za_96, za_97, za_98, za_99, za_100, za_101, za_102, za_103, za_104, za_105, za_106, za_107, za_108, h35', e98]
    · rintro f m2 ⟨j1, j2⟩
      have h35' : m2 70 35 = nI s.1.length := by rw [j1 70 (by omega)]; exact h35
      refine ⟨m2, ?_, fun c c1 c2 => by rw [j1 c c1, i1 c c2], fun i hi => ⟨j2 i hi, hnl i hi⟩⟩
      show S_X8_sorts_95 N (L_X8_sorts_95 N f) m2 _ (nI s.1.length) = _
      unfold S_X8_sorts_95
      simp (disch := omega) only [zi_t, zi_f, bnd_t, zg_in, zx, nI_ltI, nI_leI, nI_eq, nI_add, pk_mul, pk_sub, mup_s, mup_c, mup_j, mrw_c, if_pos, if_neg, zm_1, zm_2, zm_3, zm_4, zm_5, zm_6, zm_7, zm_8, zm_9, zf_0, zf_1, zf_2, zf_3, zf_4, zf_5, zf_6, zf_7, zf_8, zf_9, zf_10, zf_14, zf_15, zf_16, zf_18, zf_19, zf_20, zf_24, zf_30, zf_31, zf_32, zf_33, zf_99, zf_100, zf_160, zf_200, zf_287, zf_288, zf_300, zf_1000, zf_1023, zf_1024, zf_1600, zf_3840, zf_25600, zf_36000, zf_1000000, zf_1000000000, zf_2000000000, zf_11560, za_1, za_2, za_4, za_5, za_6, za_7, za_8, za_9, za_10, za_11, za_12, za_14, za_15, za_22, za_23, za_25, za_26, za_27, za_28, za_29, za_30, za_31, za_32, za_33, za_34, za_35, za_41, za_42, za_43, za_44, za_45, za_46, za_47, za_48, za_49, za_61, za_62, za_63, za_64, za_65, za_71, za_72, za_73, za_74, za_75, za_76, za_77, za_78, za_79, za_80, za_81, za_82, za_83, za_84, za_85, za_86, za_87, za_88, za_89, za_90, za_91, za_92, za_93, za_94, za_95, za_96, za_97, za_98, za_99, za_100, za_101, za_102, za_103, za_104, za_105, za_106, za_107, za_108, h35']
