theorem mid_get {A C : ArL} {x : Nat × Nat} : (A ++ x :: C)[A.length]? = some x := by rw [List.getElem?_append_right (Nat.le_refl _), Nat.sub_self]; rfl
/-- one more is sorted in -/
theorem keep_in {N k : Nat} {rec : Mem → Int32 → Option (Int32 × Mem)} {m0 : Mem} {x : Nat × Nat} {T S : ArL} (hN : 40000 < N) (hk : k < 160) :
    ∀ (f : Nat) (A B : ArL) (m : Mem), A ++ B = S → A.length + (B.length + T.length) < 160 → R5 m (A ++ x :: (B ++ T)) → (∀ q, q ∈ A ++ x :: (B ++ T) → q.1 < 2 ^ 28) → (∀ q, q ∈ S → q.1 ≠ x.1) → Srt S → (∀ b, b ∈ B → x.1 < b.1) → Fx 87 92 [] m0 m → A.length < f →
      ∃ m' L, L_X8_keeps_12 N rec f m (nI k) (nI A.length) = rec m' (nI (k + 1)) ∧ R5 m' (L ++ T) ∧ Srt L ∧ L.length = S.length + 1 ∧ (∀ q, q ∈ L ↔ q = x ∨ q ∈ S) ∧ Fx 87 92 [] m0 m' := by
  intro f
  induction f with
  | zero => intro A B m _ _ _ _ _ _ _ _ h; omega
  | succ f ih =>
    intro A B m hS hlen hR hb hne hsrt hB hF hf
    show ∃ m' L, S_X8_keeps_12 N rec (L_X8_keeps_12 N rec f) m (nI k) (nI A.length) = _ ∧ _
    have hstop : (∀ a, a ∈ A → a.1 < x.1) → R5 m ((A ++ x :: B) ++ T) ∧ Srt (A ++ x :: B) ∧ (A ++ x :: B).length = S.length + 1 ∧ (∀ q, q ∈ A ++ x :: B ↔ q = x ∨ q ∈ S) ∧ Fx 87 92 [] m0 m := by
      intro hA
      refine ⟨by rw [List.append_assoc]; exact hR, ?_, ?_, ?_, hF⟩
      · have h1 : Srt (A ++ B) := by rw [hS]; exact hsrt
        obtain ⟨a1, a2, a3⟩ := List.pairwise_append.mp h1
        refine List.pairwise_append.mpr ⟨a1, List.pairwise_cons.mpr ⟨hB, a2⟩, ?_⟩
        intro a ha b hb
        rcases List.mem_cons.mp hb with e | e
        · rw [e]; exact hA a ha
        · exact a3 a ha b e
      · rw [← hS, List.length_append, List.length_append, List.length_cons]; omega
      · intro q
        rw [← hS, List.mem_append, List.mem_cons, List.mem_append]
        constructor
        · rintro (h | h | h)
          · exact Or.inr (Or.inl h)
          · exact Or.inl h
          · exact Or.inr (Or.inr h)
        · rintro (h | h | h)
          · exact Or.inr (Or.inl h)
          · exact Or.inl h
          · exact Or.inr (Or.inr h)
    rcases List.eq_nil_or_concat A with hA | ⟨A', y, hA⟩
    · subst hA
      refine ⟨m, [] ++ x :: B, ?_, hstop (fun a ha => (by cases ha))⟩
      unfold S_X8_keeps_12 B_X8_keeps_41
      show (if nI 0 ≤ 0 then _ else _) = _
      simp (disch := omega) only [zi_t, zi_f, bnd_t, zg_in, zx, nI_ltI, nI_leI, nI_eq, nI_add, pk_mul, pk_sub, mup_s, mup_c, mup_j, mrw_c, if_pos, if_neg, zm_1, zm_2, zm_3, zm_4, zm_5, zm_6, zm_7, zm_8, zm_9, zf_0, zf_1, zf_2, zf_3, zf_4, zf_5, zf_6, zf_7, zf_8, zf_9, zf_10, zf_14, zf_15, zf_16, zf_18, zf_19, zf_20, zf_24, zf_30, zf_31, zf_32, zf_33, zf_99, zf_100, zf_160, zf_200, zf_287, zf_288, zf_300, zf_1000, zf_1023, zf_1024, zf_1600, zf_3840, zf_25600, zf_36000, zf_1000000, zf_1000000000, zf_2000000000, zf_11560, za_1, za_2, za_4, za_5, za_6, za_7, za_8, za_9, za_10, za_11, za_12, za_14, za_15, za_22, za_23, za_25, za_26, za_27, za_28, za_29, za_30, za_31, za_32, za_33, za_34, za_35, za_41, za_42, za_43, za_44, za_45, za_46, za_47, za_48, za_49, za_61, za_62, za_63, za_64, za_65, za_71, za_72, za_73, za_74, za_75, za_76, za_77, za_78, za_79, za_80, za_81, za_82, za_83, za_84, za_85, za_86, za_87, za_88, za_89, za_90, za_91, za_92, za_93, za_94, za_95, za_96, za_97, za_98, za_99, za_100, za_101, za_102, za_103, za_104, za_105, za_106, za_107, za_108]
    · rw [List.concat_eq_append] at hA
      subst hA
      have hl : (A' ++ [y]).length = A'.length + 1 := by rw [List.length_append]; rfl
      rw [hl] at hlen hf
      have hR2 : R5 m (A' ++ y :: x :: (B ++ T)) := by rw [show A' ++ y :: x :: (B ++ T) = (A' ++ [y]) ++ x :: (B ++ T) by simp]; exact hR
      have hL160 : (A' ++ y :: x :: (B ++ T)).length ≤ 160 := by rw [List.length_append, List.length_cons, List.length_cons, List.length_append]; omega
      have gy : (A' ++ y :: x :: (B ++ T))[A'.length]? = some y := mid_get
      have gx : (A' ++ y :: x :: (B ++ T))[A'.length + 1]? = some x := by rw [List.getElem?_append_right (by omega), show A'.length + 1 - A'.length = 1 by omega]; rfl
      have hyb : y.1 < 2 ^ 28 := hb y (by simp)
      have hxb : x.1 < 2 ^ 28 := hb x (by simp)
      have hbeh := mw_isBehind (N := N) hR2 hL160 gy gx hyb hxb
      have hyS : y ∈ S := by rw [← hS]; simp
      have hne2 := hne y hyS
      unfold S_X8_keeps_12 B_X8_keeps_41
      rw [hl]
      by_cases hlt : x.1 < y.1
      · rw [decide_eq_true hlt, bI_t] at hbeh
        obtain ⟨m1, e1, e2, e3⟩ := mw_exchanges (N := N) hR2 hL160
        obtain ⟨m', L, p1, p2⟩ := ih A' (y :: B) m1 (by rw [← hS]; simp) (by rw [List.length_cons]; omega) (by rw [List.cons_append]; exact e2) (by
          intro q hq
          apply hb q
          simp only [List.mem_append, List.mem_cons] at hq ⊢
          rcases hq with h | h | (h | h) | h <;> simp [h]) hne hsrt (by
          intro b hb2
          rcases List.mem_cons.mp hb2 with e | e
          · rw [e]; exact hlt
          · exact hB b e) (hF.tr e3) (by omega)
        refine ⟨m', L, ?_, p2⟩
        rw [← p1]
        simp (disch := omega) only [zi_t, zi_f, bnd_t, zg_in, zx, nI_ltI, nI_leI, nI_eq, nI_add, pk_mul, pk_sub, mup_s, mup_c, mup_j, mrw_c, if_pos, if_neg, zm_1, zm_2, zm_3, zm_4, zm_5, zm_6, zm_7, zm_8, zm_9, zf_0, zf_1, zf_2, zf_3, zf_4, zf_5, zf_6, zf_7, zf_8, zf_9, zf_10, zf_14, zf_15, zf_16, zf_18, zf_19, zf_20, zf_24, zf_30, zf_31, zf_32, zf_33, zf_99, zf_100, zf_160, zf_200, zf_287, zf_288, zf_300, zf_1000, zf_1023, zf_1024, zf_1600, zf_3840, zf_25600, zf_36000, zf_1000000, zf_1000000000, zf_2000000000, zf_11560, za_1, za_2, za_4, za_5, za_6, za_7, za_8, za_9, za_10, za_11, za_12, za_14, za_15, za_22, za_23, za_25, za_26, za_27, za_28, za_29, za_30, za_31, za_32, za_33, za_34, za_35, za_41, za_42, za_43, za_44, za_45, za_46, za_47, za_48, za_49, za_61, za_62, za_63, za_64, za_65, za_71, za_72, za_73, za_74, za_75, za_76, za_77, za_78, za_79, za_80, za_81, za_82, za_83, za_84, za_85, za_86, za_87, za_88, za_89, za_90, za_91, za_92, za_93, za_94, za_95, za_96, za_97, za_98, za_99, za_100, za_101, za_102, za_103, za_104, za_105, za_106, za_107, za_108, show nI (A'.length + 1) - nI 1 = nI A'.length from nI_pred _]
        rw [cal_t hbeh]
        simp (disch := omega) only [zi_t, zi_f, bnd_t, zg_in, zx, nI_ltI, nI_leI, nI_eq, nI_add, pk_mul, pk_sub, mup_s, mup_c, mup_j, mrw_c, if_pos, if_neg, zm_1, zm_2, zm_3, zm_4, zm_5, zm_6, zm_7, zm_8, zm_9, zf_0, zf_1, zf_2, zf_3, zf_4, zf_5, zf_6, zf_7, zf_8, zf_9, zf_10, zf_14, zf_15, zf_16, zf_18, zf_19, zf_20, zf_24, zf_30, zf_31, zf_32, zf_33, zf_99, zf_100, zf_160, zf_200, zf_287, zf_288, zf_300, zf_1000, zf_1023, zf_1024, zf_1600, zf_3840, zf_25600, zf_36000, zf_1000000, zf_1000000000, zf_2000000000, zf_11560, za_1, za_2, za_4, za_5, za_6, za_7, za_8, za_9, za_10, za_11, za_12, za_14, za_15, za_22, za_23, za_25, za_26, za_27, za_28, za_29, za_30, za_31, za_32, za_33, za_34, za_35, za_41, za_42, za_43, za_44, za_45, za_46, za_47, za_48, za_49, za_61, za_62, za_63, za_64, za_65, za_71, za_72, za_73, za_74, za_75, za_76, za_77, za_78, za_79, za_80, za_81, za_82, za_83, za_84, za_85, za_86, za_87, za_88, za_89, za_90, za_91, za_92, za_93, za_94, za_95, za_96, za_97, za_98, za_99, za_100, za_101, za_102, za_103, za_104, za_105, za_106, za_107, za_108]
        rw [calv_t e1]
        show L_X8_keeps_12 N rec f m1 (nI k) (nI (A'.length + 1) + nM) = _
        rw [show nI (A'.length + 1) + nM = nI A'.length from pk_m1 _]
      · rw [decide_eq_false hlt, bI_f] at hbeh
        refine ⟨m, (A' ++ [y]) ++ x :: B, ?_, hstop ?_⟩
        · simp (disch := omega) only [zi_t, zi_f, bnd_t, zg_in, zx, nI_ltI, nI_leI, nI_eq, nI_add, pk_mul, pk_sub, mup_s, mup_c, mup_j, mrw_c, if_pos, if_neg, zm_1, zm_2, zm_3, zm_4, zm_5, zm_6, zm_7, zm_8, zm_9, zf_0, zf_1, zf_2, zf_3, zf_4, zf_5, zf_6, zf_7, zf_8, zf_9, zf_10, zf_14, zf_15, zf_16, zf_18, zf_19, zf_20, zf_24, zf_30, zf_31, zf_32, zf_33, zf_99, zf_100, zf_160, zf_200, zf_287, zf_288, zf_300, zf_1000, zf_1023, zf_1024, zf_1600, zf_3840, zf_25600, zf_36000, zf_1000000, zf_1000000000, zf_2000000000, zf_11560, za_1, za_2, za_4, za_5, za_6, za_7, za_8, za_9, za_10, za_11, za_12, za_14, za_15, za_22, za_23, za_25, za_26, za_27, za_28, za_29, za_30, za_31, za_32, za_33, za_34, za_35, za_41, za_42, za_43, za_44, za_45, za_46, za_47, za_48, za_49, za_61, za_62, za_63, za_64, za_65, za_71, za_72, za_73, za_74, za_75, za_76, za_77, za_78, za_79, za_80, za_81, za_82, za_83, za_84, za_85, za_86, za_87, za_88, za_89, za_90, za_91, za_92, za_93, za_94, za_95, za_96, za_97, za_98, za_99, za_100, za_101, za_102, za_103, za_104, za_105, za_106, za_107, za_108, show nI (A'.length + 1) - nI 1 = nI A'.length from nI_pred _]
          rw [cal_t hbeh]
          simp (disch := omega) only [zi_t, zi_f, bnd_t, zg_in, zx, nI_ltI, nI_leI, nI_eq, nI_add, pk_mul, pk_sub, mup_s, mup_c, mup_j, mrw_c, if_pos, if_neg, zm_1, zm_2, zm_3, zm_4, zm_5, zm_6, zm_7, zm_8, zm_9, zf_0, zf_1, zf_2, zf_3, zf_4, zf_5, zf_6, zf_7, zf_8, zf_9, zf_10, zf_14, zf_15, zf_16, zf_18, zf_19, zf_20, zf_24, zf_30, zf_31, zf_32, zf_33, zf_99, zf_100, zf_160, zf_200, zf_287, zf_288, zf_300, zf_1000, zf_1023, zf_1024, zf_1600, zf_3840, zf_25600, zf_36000, zf_1000000, zf_1000000000, zf_2000000000, zf_11560, za_1, za_2, za_4, za_5, za_6, za_7, za_8, za_9, za_10, za_11, za_12, za_14, za_15, za_22, za_23, za_25, za_26, za_27, za_28, za_29, za_30, za_31, za_32, za_33, za_34, za_35, za_41, za_42, za_43, za_44, za_45, za_46, za_47, za_48, za_49, za_61, za_62, za_63, za_64, za_65, za_71, za_72, za_73, za_74, za_75, za_76, za_77, za_78, za_79, za_80, za_81, za_82, za_83, za_84, za_85, za_86, za_87, za_88, za_89, za_90, za_91, za_92, za_93, za_94, za_95, za_96, za_97, za_98, za_99, za_100, za_101, za_102, za_103, za_104, za_105, za_106, za_107, za_108]
        · have h1 : Srt ((A' ++ [y]) ++ B) := by rw [hS]; exact hsrt
          obtain ⟨a1, _, _⟩ := List.pairwise_append.mp h1
          obtain ⟨_, _, a4⟩ := List.pairwise_append.mp a1
          intro a ha
          rcases List.mem_append.mp ha with e | e
          · have := a4 a e y (List.mem_singleton.mpr rfl); omega
          · rw [List.mem_singleton] at e; rw [e]; omega
