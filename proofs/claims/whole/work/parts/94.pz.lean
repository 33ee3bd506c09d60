theorem pk_upM {p : Nat} (h : p < 2 ^ 31) : q_shr (nI p) (nI 14) &&& nI 15 = nI (p / 16384 % 16) := by
  show (nI p >>> ((14 : Int32) &&& 31)) &&& (15 : Int32) = _
  rw [pk_shrN h ((14 : Int32) &&& 31) 14 (by decide)]
  exact pk_andN (by omega) 4 (by decide)
theorem pk_loM {p : Nat} (h : p < 2 ^ 31) : q_shr (nI p) (nI 10) &&& nI 15 = nI (p / 1024 % 16) := by
  show (nI p >>> ((10 : Int32) &&& 31)) &&& (15 : Int32) = _
  rw [pk_shrN h ((10 : Int32) &&& 31) 10 (by decide)]
  exact pk_andN (by omega) 4 (by decide)
theorem reA_pre {Q : List Nat} (R : List Nat) {q : Nat × Nat} (h1 : fr q.1 ∈ Q) (h2 : too q.1 ∈ Q) : reA (Q ++ R) q = reA Q q := by
  unfold reA
  rw [ixo_app R h1, ixo_app R h2]
theorem map_reA {Q : List Nat} (R : List Nat) {Z : ArL} (h : ∀ q, q ∈ Z → fr q.1 ∈ Q ∧ too q.1 ∈ Q) : Z.map (reA (Q ++ R)) = Z.map (reA Q) := List.map_congr_left (fun q hq => reA_pre R (h q hq).1 (h q hq).2)
theorem trim_in {N st k s : Nat} {E : Nat → Bool} {D : ArL} {rd us : Nat → Bool} {W : List Nat} {m0 : Mem} {rec : Mem → Int32 → Int32 → Int32 → Option (Int32 × Mem)} (hN : 40000 < N) (hMW : MW m0 E D) (hMR : MR m0 rd us) (hD : D.length ≤ 36000) (hok : DOK 1024 D) (hWd : W.Nodup) (hW : ∀ t, t ∈ W ↔ rd t = true ∧ us t = true) (hW1 : ∀ t, t ∈ W → t < 1024) (hs : s ∈ W) (hk : k < 33) :
    ∀ (l2 l1 : ArL) (f : Nat) (m : Mem) (Q : List Nat) (Z : ArL) (x : Int32), seg (usA D W) s = l1 ++ l2 → NM m Q → R5 m (Z.map (reA Q)) → Fx 85 92 [20, 26] m0 m → (∀ t, t ∈ Q → t ∈ W) → Q[k]? = some s →
      (∀ q, q ∈ Z → fr q.1 ∈ Q ∧ too q.1 ∈ Q) → (Z ++ l2).Nodup → (∀ q, q ∈ Z → q ∈ usA D W) → Z.length ≤ 160 → Q.length ≤ 32 → l2.length + 1 < f →
      ((x = nM ∧ l2 = []) ∨ (∃ w q l3, x = nI w ∧ w < D.length ∧ D[w]? = some q ∧ l2 = q :: l3)) →
      ∃ m', Fx 85 92 [20, 26] m0 m' ∧ ((L_X8_trims_80 N rec f m (nI st) (nI 1) (nI k) x = rec m' (nI st) (nI 1) (nI (k + 1)) ∧ NM m' ((l2.map (fun q => too q.1)).foldl addN Q) ∧ R5 m' ((Z ++ l2).map (reA ((l2.map (fun q => too q.1)).foldl addN Q))) ∧ ((l2.map (fun q => too q.1)).foldl addN Q).length ≤ 32 ∧ (Z ++ l2).length ≤ 160) ∨
        (L_X8_trims_80 N rec f m (nI st) (nI 1) (nI k) x = rec m' (nI st) (nI 0) (nI (k + 1)) ∧ tooBig D W)) := by
  have hU : Srt (usA D W) := insL_srt _
  intro l2
  induction l2 with
  | nil =>
    intro l1 f m Q Z x hseg hQ hR hF hQW hQk hZ hnd hZU hZl hQl hf hx
    obtain ⟨f, rfl⟩ : ∃ g, f = g + 1 := ⟨f - 1, by omega⟩
    rcases hx with ⟨rfl, _⟩ | ⟨w, q, l3, _, _, _, e⟩
    · refine ⟨m, hF, Or.inl ⟨?_, hQ, by rw [List.append_nil]; exact hR, hQl, by rw [List.append_nil]; exact hZl⟩⟩
      show S_X8_trims_80 N rec (L_X8_trims_80 N rec f) m (nI st) (nI 1) (nI k) nM = _
      unfold S_X8_trims_80 B_X8_trims_259
      simp (disch := omega) only [zi_t, zi_f, bnd_t, zg_in, zx, nI_ltI, nI_leI, nI_eq, nI_add, pk_mul, pk_sub, mup_s, mup_c, mup_j, mrw_c, if_pos, if_neg, zm_1, zm_2, zm_3, zm_4, zm_5, zm_6, zm_7, zm_8, zm_9, zf_0, zf_1, zf_2, zf_3, zf_4, zf_5, zf_6, zf_7, zf_8, zf_9, zf_10, zf_14, zf_15, zf_16, zf_18, zf_19, zf_20, zf_24, zf_30, zf_31, zf_32, zf_33, zf_99, zf_100, zf_160, zf_200, zf_287, zf_288, zf_300, zf_1000, zf_1023, zf_1024, zf_1600, zf_3840, zf_25600, zf_36000, zf_1000000, zf_1000000000, zf_2000000000, zf_11560, za_1, za_2, za_4, za_5, za_6, za_7, za_8, za_9, za_10, za_11, za_12, za_14, za_15, za_22, za_23, za_25, za_26, za_27, za_28, za_29, za_30, za_31, za_32, za_33, za_34, za_35, za_41, za_42, za_43, za_44, za_45, za_46, za_47, za_48, za_49, za_61, za_62, za_63, za_64, za_65, za_71, za_72, za_73, za_74, za_75, za_76, za_77, za_78, za_79, za_80, za_81, za_82, za_83, za_84, za_85, za_86, za_87, za_88, za_89, za_90, za_91, za_92, za_93, za_94, za_95, za_96, za_97, za_98, za_99, za_100, za_101, za_102, za_103, za_104, za_105, za_106, za_107, za_108]
    · cases e
  | cons q0 l3 ih =>
    intro l1 f m Q Z x hseg hQ hR hF hQW hQk hZ hnd hZU hZl hQl hf hx
    obtain ⟨f, rfl⟩ : ∃ g, f = g + 1 := ⟨f - 1, by omega⟩
    rcases hx with ⟨_, e⟩ | ⟨w, q, l3', rfl, hw, hq, e⟩
    · cases e
    obtain ⟨rfl, rfl⟩ := List.cons.inj e
    have hqD := List.mem_of_getElem? hq
    have hqm := hok q0 hqD
    have hq1 := hqm.1
    have hqc := hqm.2.2.2.2.2
    have hqt : q0.1 % 1024 < 1024 := hqm.2.2.1
    have hqs := (seg_mem hU).mp (by rw [hseg]; exact List.mem_append.mpr (Or.inr (List.mem_cons_self ..)) : q0 ∈ seg (usA D W) s)
    have hqW := (usA_of hqs.1).2
    have hsrt : Srt (l1 ++ q0 :: l3) := by rw [← hseg]; exact seg_srt hU s
    have hkl := (List.getElem?_eq_some_iff.mp hQk).1
    obtain ⟨m1, g1, g2, g3⟩ := mw_finds (N := N) hQ hqt
    have hF1 : Fx 85 92 [20, 26] m0 m1 := hF.tr (g3.wd (by omega) (by omega) (by simp))
    obtain ⟨R, hRa⟩ := addN_pre Q (q0.1 % 1024)
    have hQ1W : ∀ t, t ∈ addN Q (q0.1 % 1024) → t ∈ W := by
      intro t ht
      rcases addN_mem.mp ht with e | e
      · exact hQW t e
      · rw [e]; exact hqW.2
    have hQ1k : (addN Q (q0.1 % 1024))[k]? = some s := by rw [hRa, List.getElem?_append_left hkl]; exact hQk
    have e26 : m1 70 26 = nI Z.length := by rw [g3.2 26 (by simp), hR.1, List.length_map]
    have e20 := g2.2.2.2.2
    have hl1 := g2.len
    have e86 := g2.2.2.1 k s hk hQ1k
    have hW1' : MW m1 E D := hMW.cg (hF1.2 14 (by simp)) (hF1.1 80 (by omega) (by omega)) (hF1.1 81 (by omega) (by omega)) (hF1.1 82 (by omega) (by omega))
    have hR1' : MR m1 rd us := fun t ht => by rw [hF1.1 83 (by omega) (by omega), hF1.1 84 (by omega) (by omega)]; exact hMR t ht
    have e80 := (hMW.2.1 w q0 hq).1
    have e80m : m 80 w = nI q0.1 := (hF.at (by omega) (by omega) w).trans e80
    have e80m1 : m1 80 w = nI q0.1 := (hF1.at (by omega) (by omega) w).trans e80
    have e81m1 : m1 81 w = nI q0.2 := (hF1.at (by omega) (by omega) w).trans (hMW.2.1 w q0 hq).2
    have hfail : tooBig D W → (160 ≤ Z.length ∨ 32 < (addN Q (q0.1 % 1024)).length) → L_X8_trims_80 N rec (f + 1) m (nI st) (nI 1) (nI k) (nI w) = rec m1 (nI st) (nI 0) (nI (k + 1)) := by
      intro _ hc
      obtain ⟨r, hr, hr2⟩ := mw_next (lim := q0.1 + 1) hN hW1' hD hok hR1' (hW1 s hs) (Or.inr ⟨rfl, by omega, by omega⟩)
      have hr : F_X8_nextArc N m1 (nI s) (nI q0.1) = some (r, m1) := hr
      obtain ⟨f, rfl⟩ : ∃ g, f = g + 1 := ⟨f - 1, by omega⟩
      have hend : L_X8_trims_80 N rec (f + 1) m1 (nI st) (nI 0) (nI k) r = rec m1 (nI st) (nI 0) (nI (k + 1)) := by
        show S_X8_trims_80 N rec (L_X8_trims_80 N rec f) m1 (nI st) (nI 0) (nI k) r = _
        unfold S_X8_trims_80 B_X8_trims_259
        rcases hr2 with ⟨rfl, _⟩ | ⟨w2, q2, rfl, hw2, _⟩
        · simp (disch := omega) only [zi_t, zi_f, bnd_t, zg_in, zx, nI_ltI, nI_leI, nI_eq, nI_add, pk_mul, pk_sub, mup_s, mup_c, mup_j, mrw_c, if_pos, if_neg, zm_1, zm_2, zm_3, zm_4, zm_5, zm_6, zm_7, zm_8, zm_9, zf_0, zf_1, zf_2, zf_3, zf_4, zf_5, zf_6, zf_7, zf_8, zf_9, zf_10, zf_14, zf_15, zf_16, zf_18, zf_19, zf_20, zf_24, zf_30, zf_31, zf_32, zf_33, zf_99, zf_100, zf_160, zf_200, zf_287, zf_288, zf_300, zf_1000, zf_1023, zf_1024, zf_1600, zf_3840, zf_25600, zf_36000, zf_1000000, zf_1000000000, zf_2000000000, zf_11560, za_1, za_2, za_4, za_5, za_6, za_7, za_8, za_9, za_10, za_11, za_12, za_14, za_15, za_22, za_23, za_25, za_26, za_27, za_28, za_29, za_30, za_31, za_32, za_33, za_34, za_35, za_41, za_42, za_43, za_44, za_45, za_46, za_47, za_48, za_49, za_61, za_62, za_63, za_64, za_65, za_71, za_72, za_73, za_74, za_75, za_76, za_77, za_78, za_79, za_80, za_81, za_82, za_83, za_84, za_85, za_86, za_87, za_88, za_89, za_90, za_91, za_92, za_93, za_94, za_95, za_96, za_97, za_98, za_99, za_100, za_101, za_102, za_103, za_104, za_105, za_106, za_107, za_108]
        · simp (disch := omega) only [zi_t, zi_f, bnd_t, zg_in, zx, nI_ltI, nI_leI, nI_eq, nI_add, pk_mul, pk_sub, mup_s, mup_c, mup_j, mrw_c, if_pos, if_neg, zm_1, zm_2, zm_3, zm_4, zm_5, zm_6, zm_7, zm_8, zm_9, zf_0, zf_1, zf_2, zf_3, zf_4, zf_5, zf_6, zf_7, zf_8, zf_9, zf_10, zf_14, zf_15, zf_16, zf_18, zf_19, zf_20, zf_24, zf_30, zf_31, zf_32, zf_33, zf_99, zf_100, zf_160, zf_200, zf_287, zf_288, zf_300, zf_1000, zf_1023, zf_1024, zf_1600, zf_3840, zf_25600, zf_36000, zf_1000000, zf_1000000000, zf_2000000000, zf_11560, za_1, za_2, za_4, za_5, za_6, za_7, za_8, za_9, za_10, za_11, za_12, za_14, za_15, za_22, za_23, za_25, za_26, za_27, za_28, za_29, za_30, za_31, za_32, za_33, za_34, za_35, za_41, za_42, za_43, za_44, za_45, za_46, za_47, za_48, za_49, za_61, za_62, za_63, za_64, za_65, za_71, za_72, za_73, za_74, za_75, za_76, za_77, za_78, za_79, za_80, za_81, za_82, za_83, za_84, za_85, za_86, za_87, za_88, za_89, za_90, za_91, za_92, za_93, za_94, za_95, za_96, za_97, za_98, za_99, za_100, za_101, za_102, za_103, za_104, za_105, za_106, za_107, za_108]
      have h237 : B_X8_trims_237 N rec (L_X8_trims_80 N rec (f + 1)) m1 (nI st) (nI 0) (nI k) (nI w) = rec m1 (nI st) (nI 0) (nI (k + 1)) := by
        unfold B_X8_trims_237
        simp (disch := omega) only [zi_t, zi_f, bnd_t, zg_in, zx, nI_ltI, nI_leI, nI_eq, nI_add, pk_mul, pk_sub, mup_s, mup_c, mup_j, mrw_c, if_pos, if_neg, zm_1, zm_2, zm_3, zm_4, zm_5, zm_6, zm_7, zm_8, zm_9, zf_0, zf_1, zf_2, zf_3, zf_4, zf_5, zf_6, zf_7, zf_8, zf_9, zf_10, zf_14, zf_15, zf_16, zf_18, zf_19, zf_20, zf_24, zf_30, zf_31, zf_32, zf_33, zf_99, zf_100, zf_160, zf_200, zf_287, zf_288, zf_300, zf_1000, zf_1023, zf_1024, zf_1600, zf_3840, zf_25600, zf_36000, zf_1000000, zf_1000000000, zf_2000000000, zf_11560, za_1, za_2, za_4, za_5, za_6, za_7, za_8, za_9, za_10, za_11, za_12, za_14, za_15, za_22, za_23, za_25, za_26, za_27, za_28, za_29, za_30, za_31, za_32, za_33, za_34, za_35, za_41, za_42, za_43, za_44, za_45, za_46, za_47, za_48, za_49, za_61, za_62, za_63, za_64, za_65, za_71, za_72, za_73, za_74, za_75, za_76, za_77, za_78, za_79, za_80, za_81, za_82, za_83, za_84, za_85, za_86, za_87, za_88, za_89, za_90, za_91, za_92, za_93, za_94, za_95, za_96, za_97, za_98, za_99, za_100, za_101, za_102, za_103, za_104, za_105, za_106, za_107, za_108, e86, e80m1]
        rw [cal_t hr]
        exact hend
      have h127 : B_X8_trims_127 N rec (L_X8_trims_80 N rec (f + 1)) m1 (nI st) (nI k) (nI w) = rec m1 (nI st) (nI 0) (nI (k + 1)) := by
        unfold B_X8_trims_127 B_X8_trims_128
        simp (disch := omega) only [zi_t, zi_f, bnd_t, zg_in, zx, nI_ltI, nI_leI, nI_eq, nI_add, pk_mul, pk_sub, mup_s, mup_c, mup_j, mrw_c, if_pos, if_neg, zm_1, zm_2, zm_3, zm_4, zm_5, zm_6, zm_7, zm_8, zm_9, zf_0, zf_1, zf_2, zf_3, zf_4, zf_5, zf_6, zf_7, zf_8, zf_9, zf_10, zf_14, zf_15, zf_16, zf_18, zf_19, zf_20, zf_24, zf_30, zf_31, zf_32, zf_33, zf_99, zf_100, zf_160, zf_200, zf_287, zf_288, zf_300, zf_1000, zf_1023, zf_1024, zf_1600, zf_3840, zf_25600, zf_36000, zf_1000000, zf_1000000000, zf_2000000000, zf_11560, za_1, za_2, za_4, za_5, za_6, za_7, za_8, za_9, za_10, za_11, za_12, za_14, za_15, za_22, za_23, za_25, za_26, za_27, za_28, za_29, za_30, za_31, za_32, za_33, za_34, za_35, za_41, za_42, za_43, za_44, za_45, za_46, za_47, za_48, za_49, za_61, za_62, za_63, za_64, za_65, za_71, za_72, za_73, za_74, za_75, za_76, za_77, za_78, za_79, za_80, za_81, za_82, za_83, za_84, za_85, za_86, za_87, za_88, za_89, za_90, za_91, za_92, za_93, za_94, za_95, za_96, za_97, za_98, za_99, za_100, za_101, za_102, za_103, za_104, za_105, za_106, za_107, za_108]
        exact h237
      show S_X8_trims_80 N rec (L_X8_trims_80 N rec (f + 1)) m (nI st) (nI 1) (nI k) (nI w) = _
      unfold S_X8_trims_80
      simp (disch := omega) only [zi_t, zi_f, bnd_t, zg_in, zx, nI_ltI, nI_leI, nI_eq, nI_add, pk_mul, pk_sub, mup_s, mup_c, mup_j, mrw_c, if_pos, if_neg, zm_1, zm_2, zm_3, zm_4, zm_5, zm_6, zm_7, zm_8, zm_9, zf_0, zf_1, zf_2, zf_3, zf_4, zf_5, zf_6, zf_7, zf_8, zf_9, zf_10, zf_14, zf_15, zf_16, zf_18, zf_19, zf_20, zf_24, zf_30, zf_31, zf_32, zf_33, zf_99, zf_100, zf_160, zf_200, zf_287, zf_288, zf_300, zf_1000, zf_1023, zf_1024, zf_1600, zf_3840, zf_25600, zf_36000, zf_1000000, zf_1000000000, zf_2000000000, zf_11560, za_1, za_2, za_4, za_5, za_6, za_7, za_8, za_9, za_10, za_11, za_12, za_14, za_15, za_22, za_23, za_25, za_26, za_27, za_28, za_29, za_30, za_31, za_32, za_33, za_34, za_35, za_41, za_42, za_43, za_44, za_45, za_46, za_47, za_48, za_49, za_61, za_62, za_63, za_64, za_65, za_71, za_72, za_73, za_74, za_75, za_76, za_77, za_78, za_79, za_80, za_81, za_82, za_83, za_84, za_85, za_86, za_87, za_88, za_89, za_90, za_91, za_92, za_93, za_94, za_95, za_96, za_97, za_98, za_99, za_100, za_101, za_102, za_103, za_104, za_105, za_106, za_107, za_108, e80m, pk_tgt]
      rw [calv_t g1]
      by_cases hc1 : 160 ≤ Z.length
      · simp (disch := omega) only [zi_t, zi_f, bnd_t, zg_in, zx, nI_ltI, nI_leI, nI_eq, nI_add, pk_mul, pk_sub, mup_s, mup_c, mup_j, mrw_c, if_pos, if_neg, zm_1, zm_2, zm_3, zm_4, zm_5, zm_6, zm_7, zm_8, zm_9, zf_0, zf_1, zf_2, zf_3, zf_4, zf_5, zf_6, zf_7, zf_8, zf_9, zf_10, zf_14, zf_15, zf_16, zf_18, zf_19, zf_20, zf_24, zf_30, zf_31, zf_32, zf_33, zf_99, zf_100, zf_160, zf_200, zf_287, zf_288, zf_300, zf_1000, zf_1023, zf_1024, zf_1600, zf_3840, zf_25600, zf_36000, zf_1000000, zf_1000000000, zf_2000000000, zf_11560, za_1, za_2, za_4, za_5, za_6, za_7, za_8, za_9, za_10, za_11, za_12, za_14, za_15, za_22, za_23, za_25, za_26, za_27, za_28, za_29, za_30, za_31, za_32, za_33, za_34, za_35, za_41, za_42, za_43, za_44, za_45, za_46, za_47, za_48, za_49, za_61, za_62, za_63, za_64, za_65, za_71, za_72, za_73, za_74, za_75, za_76, za_77, za_78, za_79, za_80, za_81, za_82, za_83, za_84, za_85, za_86, za_87, za_88, za_89, za_90, za_91, za_92, za_93, za_94, za_95, za_96, za_97, za_98, za_99, za_100, za_101, za_102, za_103, za_104, za_105, za_106, za_107, za_108, e26]
        exact h127
      · simp (disch := omega) only [zi_t, zi_f, bnd_t, zg_in, zx, nI_ltI, nI_leI, nI_eq, nI_add, pk_mul, pk_sub, mup_s, mup_c, mup_j, mrw_c, if_pos, if_neg, zm_1, zm_2, zm_3, zm_4, zm_5, zm_6, zm_7, zm_8, zm_9, zf_0, zf_1, zf_2, zf_3, zf_4, zf_5, zf_6, zf_7, zf_8, zf_9, zf_10, zf_14, zf_15, zf_16, zf_18, zf_19, zf_20, zf_24, zf_30, zf_31, zf_32, zf_33, zf_99, zf_100, zf_160, zf_200, zf_287, zf_288, zf_300, zf_1000, zf_1023, zf_1024, zf_1600, zf_3840, zf_25600, zf_36000, zf_1000000, zf_1000000000, zf_2000000000, zf_11560, za_1, za_2, za_4, za_5, za_6, za_7, za_8, za_9, za_10, za_11, za_12, za_14, za_15, za_22, za_23, za_25, za_26, za_27, za_28, za_29, za_30, za_31, za_32, za_33, za_34, za_35, za_41, za_42, za_43, za_44, za_45, za_46, za_47, za_48, za_49, za_61, za_62, za_63, za_64, za_65, za_71, za_72, za_73, za_74, za_75, za_76, za_77, za_78, za_79, za_80, za_81, za_82, za_83, za_84, za_85, za_86, za_87, za_88, za_89, za_90, za_91, za_92, za_93, za_94, za_95, za_96, za_97, za_98, za_99, za_100, za_101, za_102, za_103, za_104, za_105, za_106, za_107, za_108, e26, e20]
        exact h127
    by_cases hc1 : 160 ≤ Z.length
    · have hbig : tooBig D W := by
        refine Or.inr ?_
        have h1 : (Z ++ [q0]).Nodup := by
          have : (Z ++ q0 :: l3).Nodup := hnd
          rw [show Z ++ q0 :: l3 = (Z ++ [q0]) ++ l3 by simp] at this
          exact (List.nodup_append.mp this).1
        have := nodup_leA (Z ++ [q0]) (usA D W) h1 (by
          intro y hy
          rcases List.mem_append.mp hy with e | e
          · exact hZU y e
          · rw [List.mem_singleton] at e; rw [e]; exact hqs.1)
        rw [List.length_append, List.length_singleton] at this
        omega
      exact ⟨m1, hF1, Or.inr ⟨hfail hbig (Or.inl hc1), hbig⟩⟩
    by_cases hc2 : 32 < (addN Q (q0.1 % 1024)).length
    · have hbig : tooBig D W := Or.inl (by have := nodup_le _ W g2.1 hQ1W; omega)
      exact ⟨m1, hF1, Or.inr ⟨hfail hbig (Or.inr hc2), hbig⟩⟩
    -- it is made
    have hix : ixo (addN Q (q0.1 % 1024)) (q0.1 / 262144) = k := ixo_get g2.1 (by rw [show q0.1 / 262144 = s from hqs.2]; exact hQ1k)
    have htQ : q0.1 % 1024 ∈ addN Q (q0.1 % 1024) := addN_mem.mpr (Or.inr rfl)
    have hfQ : q0.1 / 262144 ∈ addN Q (q0.1 % 1024) := by rw [show q0.1 / 262144 = s from hqs.2]; exact List.mem_of_getElem? hQ1k
    have e85 := g2.2.2.2.1 _ hqt
    rw [if_pos htQ] at e85
    have hixt := ixo_lt htQ
    obtain ⟨m2, hm2⟩ : ∃ m2, m2 = mup (mup (mup (mup (mup (mup m1 87 Z.length (nI k)) 88 Z.length (nI (q0.1 / 16384 % 16))) 89 Z.length (nI (q0.1 / 1024 % 16))) 90 Z.length (nI q0.2)) 91 Z.length (nI (ixo (addN Q (q0.1 % 1024)) (q0.1 % 1024)))) 70 26 (nI (Z.length + 1)) := ⟨_, rfl⟩
    have hF2 : Fx 87 92 [26] m1 m2 := by
      rw [hm2]
      exact (((((Fx.rf.up (by omega) (by omega) (by omega)).up (by omega) (by omega) (by omega)).up (by omega) (by omega) (by omega)).up (by omega) (by omega) (by omega)).up (by omega) (by omega) (by omega)).sl (by simp)
    have hF3 : Fx 85 92 [20, 26] m0 m2 := hF1.tr (hF2.wd (by omega) (by omega) (by simp))
    have hW2 : MW m2 E D := hMW.cg (hF3.2 14 (by simp)) (hF3.1 80 (by omega) (by omega)) (hF3.1 81 (by omega) (by omega)) (hF3.1 82 (by omega) (by omega))
    have hR2 : MR m2 rd us := fun t ht => by rw [hF3.1 83 (by omega) (by omega), hF3.1 84 (by omega) (by omega)]; exact hMR t ht
    have hN2 : NM m2 (addN Q (q0.1 % 1024)) := g2.cg (hF2.1 85 (by omega) (by omega)) (hF2.1 86 (by omega) (by omega)) (hF2.2 20 (by simp))
    have hmap : (Z ++ [q0]).map (reA (addN Q (q0.1 % 1024))) = Z.map (reA Q) ++ [reA (addN Q (q0.1 % 1024)) q0] := by
      rw [List.map_append]
      congr 1
      rw [hRa]
      exact map_reA R hZ
    have hreq : (reA (addN Q (q0.1 % 1024)) q0).1 = pkA k (q0.1 / 16384 % 16) (q0.1 / 1024 % 16) (ixo (addN Q (q0.1 % 1024)) (q0.1 % 1024)) := by
      show pkA (ixo _ (q0.1 / 262144)) _ _ _ = _
      rw [hix]
    have hR5 : R5 m2 ((Z ++ [q0]).map (reA (addN Q (q0.1 % 1024)))) := by
      rw [hmap]
      refine ⟨?_, ?_⟩
      · rw [hm2, mup_s, List.length_append, List.length_map]; rfl
      · intro j y hy
        rcases snoc_get hy with ⟨a, b⟩ | ⟨a, b⟩
        · rw [List.length_map] at a
          have := hR.2 j y b
          rw [hm2]
          simp (disch := omega) only [zi_t, zi_f, bnd_t, zg_in, zx, nI_ltI, nI_leI, nI_eq, nI_add, pk_mul, pk_sub, mup_s, mup_c, mup_j, mrw_c, if_pos, if_neg, zm_1, zm_2, zm_3, zm_4, zm_5, zm_6, zm_7, zm_8, zm_9, zf_0, zf_1, zf_2, zf_3, zf_4, zf_5, zf_6, zf_7, zf_8, zf_9, zf_10, zf_14, zf_15, zf_16, zf_18, zf_19, zf_20, zf_24, zf_30, zf_31, zf_32, zf_33, zf_99, zf_100, zf_160, zf_200, zf_287, zf_288, zf_300, zf_1000, zf_1023, zf_1024, zf_1600, zf_3840, zf_25600, zf_36000, zf_1000000, zf_1000000000, zf_2000000000, zf_11560, za_1, za_2, za_4, za_5, za_6, za_7, za_8, za_9, za_10, za_11, za_12, za_14, za_15, za_22, za_23, za_25, za_26, za_27, za_28, za_29, za_30, za_31, za_32, za_33, za_34, za_35, za_41, za_42, za_43, za_44, za_45, za_46, za_47, za_48, za_49, za_61, za_62, za_63, za_64, za_65, za_71, za_72, za_73, za_74, za_75, za_76, za_77, za_78, za_79, za_80, za_81, za_82, za_83, za_84, za_85, za_86, za_87, za_88, za_89, za_90, za_91, za_92, za_93, za_94, za_95, za_96, za_97, za_98, za_99, za_100, za_101, za_102, za_103, za_104, za_105, za_106, za_107, za_108, g3.1 87 (by omega) (by omega), g3.1 88 (by omega) (by omega), g3.1 89 (by omega) (by omega), g3.1 90 (by omega) (by omega), g3.1 91 (by omega) (by omega)]
          exact this
        · rw [List.length_map] at a
          subst a b
          rw [hreq]
          show _ ∧ _ ∧ _ ∧ m2 90 Z.length = nI q0.2 ∧ _
          unfold fr upr lwr too
          rw [pkA_from (by omega) (by omega) (by omega), pkA_upper (by omega) (by omega) (by omega), pkA_lower (by omega) (by omega), pkA_to (by omega), hm2]
          refine ⟨?_, ?_, ?_, ?_, ?_⟩ <;> simp (disch := omega) only [zi_t, zi_f, bnd_t, zg_in, zx, nI_ltI, nI_leI, nI_eq, nI_add, pk_mul, pk_sub, mup_s, mup_c, mup_j, mrw_c, if_pos, if_neg, zm_1, zm_2, zm_3, zm_4, zm_5, zm_6, zm_7, zm_8, zm_9, zf_0, zf_1, zf_2, zf_3, zf_4, zf_5, zf_6, zf_7, zf_8, zf_9, zf_10, zf_14, zf_15, zf_16, zf_18, zf_19, zf_20, zf_24, zf_30, zf_31, zf_32, zf_33, zf_99, zf_100, zf_160, zf_200, zf_287, zf_288, zf_300, zf_1000, zf_1023, zf_1024, zf_1600, zf_3840, zf_25600, zf_36000, zf_1000000, zf_1000000000, zf_2000000000, zf_11560, za_1, za_2, za_4, za_5, za_6, za_7, za_8, za_9, za_10, za_11, za_12, za_14, za_15, za_22, za_23, za_25, za_26, za_27, za_28, za_29, za_30, za_31, za_32, za_33, za_34, za_35, za_41, za_42, za_43, za_44, za_45, za_46, za_47, za_48, za_49, za_61, za_62, za_63, za_64, za_65, za_71, za_72, za_73, za_74, za_75, za_76, za_77, za_78, za_79, za_80, za_81, za_82, za_83, za_84, za_85, za_86, za_87, za_88, za_89, za_90, za_91, za_92, za_93, za_94, za_95, za_96, za_97, za_98, za_99, za_100, za_101, za_102, za_103, za_104, za_105, za_106, za_107, za_108]
    obtain ⟨r, hr, hr2⟩ := mw_next (lim := q0.1 + 1) hN hW2 hD hok hR2 (hW1 s hs) (Or.inr ⟨rfl, by omega, by omega⟩)
    have hr : F_X8_nextArc N m2 (nI s) (nI q0.1) = some (r, m2) := hr
    have hnh := next_head (l1 := l1 ++ [q0]) (l2 := l3) hW hs (by rw [hseg]; simp) (by
      intro y hy
      rcases List.mem_append.mp hy with e | e
      · have h5 := (List.pairwise_append.mp hsrt).2.2 y e q0 (List.mem_cons_self ..)
        omega
      · rw [List.mem_singleton] at e; rw [e]; omega) (by
      intro y hy
      have h5 := (List.pairwise_cons.mp (List.pairwise_append.mp hsrt).2.1).1 y hy
      omega) hr2
    obtain ⟨m', p1, p2⟩ := ih (l1 ++ [q0]) f m2 (addN Q (q0.1 % 1024)) (Z ++ [q0]) r (by rw [hseg]; simp) hN2 hR5 hF3 hQ1W hQ1k (by
      intro y hy
      rcases List.mem_append.mp hy with e | e
      · exact ⟨addN_mem.mpr (Or.inl (hZ y e).1), addN_mem.mpr (Or.inl (hZ y e).2)⟩
      · rw [List.mem_singleton] at e; rw [e]; exact ⟨hfQ, htQ⟩) (by rw [show (Z ++ [q0]) ++ l3 = Z ++ q0 :: l3 by simp]; exact hnd) (by
      intro y hy
      rcases List.mem_append.mp hy with e | e
      · exact hZU y e
      · rw [List.mem_singleton] at e; rw [e]; exact hqs.1) (by rw [List.length_append, List.length_singleton]; omega) (by omega) (by rw [List.length_cons] at hf; omega) hnh
    have hstep : L_X8_trims_80 N rec (f + 1) m (nI st) (nI 1) (nI k) (nI w) = L_X8_trims_80 N rec f m2 (nI st) (nI 1) (nI k) r := by
      have h237 : B_X8_trims_237 N rec (L_X8_trims_80 N rec f) m2 (nI st) (nI 1) (nI k) (nI w) = L_X8_trims_80 N rec f m2 (nI st) (nI 1) (nI k) r := by
        have e1 : m2 86 k = nI s := (hF2.at (by omega) (by omega) k).trans e86
        have e2 : m2 80 w = nI q0.1 := (hF2.at (by omega) (by omega) w).trans e80m1
        unfold B_X8_trims_237
        simp (disch := omega) only [zi_t, zi_f, bnd_t, zg_in, zx, nI_ltI, nI_leI, nI_eq, nI_add, pk_mul, pk_sub, mup_s, mup_c, mup_j, mrw_c, if_pos, if_neg, zm_1, zm_2, zm_3, zm_4, zm_5, zm_6, zm_7, zm_8, zm_9, zf_0, zf_1, zf_2, zf_3, zf_4, zf_5, zf_6, zf_7, zf_8, zf_9, zf_10, zf_14, zf_15, zf_16, zf_18, zf_19, zf_20, zf_24, zf_30, zf_31, zf_32, zf_33, zf_99, zf_100, zf_160, zf_200, zf_287, zf_288, zf_300, zf_1000, zf_1023, zf_1024, zf_1600, zf_3840, zf_25600, zf_36000, zf_1000000, zf_1000000000, zf_2000000000, zf_11560, za_1, za_2, za_4, za_5, za_6, za_7, za_8, za_9, za_10, za_11, za_12, za_14, za_15, za_22, za_23, za_25, za_26, za_27, za_28, za_29, za_30, za_31, za_32, za_33, za_34, za_35, za_41, za_42, za_43, za_44, za_45, za_46, za_47, za_48, za_49, za_61, za_62, za_63, za_64, za_65, za_71, za_72, za_73, za_74, za_75, za_76, za_77, za_78, za_79, za_80, za_81, za_82, za_83, za_84, za_85, za_86, za_87, za_88, za_89, za_90, za_91, za_92, za_93, za_94, za_95, za_96, za_97, za_98, za_99, za_100, za_101, za_102, za_103, za_104, za_105, za_106, za_107, za_108, e1, e2]
        rw [cal_t hr]
      show S_X8_trims_80 N rec (L_X8_trims_80 N rec f) m (nI st) (nI 1) (nI k) (nI w) = _
      unfold S_X8_trims_80
      simp (disch := omega) only [zi_t, zi_f, bnd_t, zg_in, zx, nI_ltI, nI_leI, nI_eq, nI_add, pk_mul, pk_sub, mup_s, mup_c, mup_j, mrw_c, if_pos, if_neg, zm_1, zm_2, zm_3, zm_4, zm_5, zm_6, zm_7, zm_8, zm_9, zf_0, zf_1, zf_2, zf_3, zf_4, zf_5, zf_6, zf_7, zf_8, zf_9, zf_10, zf_14, zf_15, zf_16, zf_18, zf_19, zf_20, zf_24, zf_30, zf_31, zf_32, zf_33, zf_99, zf_100, zf_160, zf_200, zf_287, zf_288, zf_300, zf_1000, zf_1023, zf_1024, zf_1600, zf_3840, zf_25600, zf_36000, zf_1000000, zf_1000000000, zf_2000000000, zf_11560, za_1, za_2, za_4, za_5, za_6, za_7, za_8, za_9, za_10, za_11, za_12, za_14, za_15, za_22, za_23, za_25, za_26, za_27, za_28, za_29, za_30, za_31, za_32, za_33, za_34, za_35, za_41, za_42, za_43, za_44, za_45, za_46, za_47, za_48, za_49, za_61, za_62, za_63, za_64, za_65, za_71, za_72, za_73, za_74, za_75, za_76, za_77, za_78, za_79, za_80, za_81, za_82, za_83, za_84, za_85, za_86, za_87, za_88, za_89, za_90, za_91, za_92, za_93, za_94, za_95, za_96, za_97, za_98, za_99, za_100, za_101, za_102, za_103, za_104, za_105, za_106, za_107, za_108, e80m, pk_tgt]
      rw [calv_t g1]
      simp (disch := omega) only [zi_t, zi_f, bnd_t, zg_in, zx, nI_ltI, nI_leI, nI_eq, nI_add, pk_mul, pk_sub, mup_s, mup_c, mup_j, mrw_c, if_pos, if_neg, zm_1, zm_2, zm_3, zm_4, zm_5, zm_6, zm_7, zm_8, zm_9, zf_0, zf_1, zf_2, zf_3, zf_4, zf_5, zf_6, zf_7, zf_8, zf_9, zf_10, zf_14, zf_15, zf_16, zf_18, zf_19, zf_20, zf_24, zf_30, zf_31, zf_32, zf_33, zf_99, zf_100, zf_160, zf_200, zf_287, zf_288, zf_300, zf_1000, zf_1023, zf_1024, zf_1600, zf_3840, zf_25600, zf_36000, zf_1000000, zf_1000000000, zf_2000000000, zf_11560, za_1, za_2, za_4, za_5, za_6, za_7, za_8, za_9, za_10, za_11, za_12, za_14, za_15, za_22, za_23, za_25, za_26, za_27, za_28, za_29, za_30, za_31, za_32, za_33, za_34, za_35, za_41, za_42, za_43, za_44, za_45, za_46, za_47, za_48, za_49, za_61, za_62, za_63, za_64, za_65, za_71, za_72, za_73, za_74, za_75, za_76, za_77, za_78, za_79, za_80, za_81, za_82, za_83, za_84, za_85, za_86, za_87, za_88, za_89, za_90, za_91, za_92, za_93, za_94, za_95, za_96, za_97, za_98, za_99, za_100, za_101, za_102, za_103, za_104, za_105, za_106, za_107, za_108, e26, e20]
      unfold B_X8_trims_128
      simp (disch := omega) only [zi_t, zi_f, bnd_t, zg_in, zx, nI_ltI, nI_leI, nI_eq, nI_add, pk_mul, pk_sub, mup_s, mup_c, mup_j, mrw_c, if_pos, if_neg, zm_1, zm_2, zm_3, zm_4, zm_5, zm_6, zm_7, zm_8, zm_9, zf_0, zf_1, zf_2, zf_3, zf_4, zf_5, zf_6, zf_7, zf_8, zf_9, zf_10, zf_14, zf_15, zf_16, zf_18, zf_19, zf_20, zf_24, zf_30, zf_31, zf_32, zf_33, zf_99, zf_100, zf_160, zf_200, zf_287, zf_288, zf_300, zf_1000, zf_1023, zf_1024, zf_1600, zf_3840, zf_25600, zf_36000, zf_1000000, zf_1000000000, zf_2000000000, zf_11560, za_1, za_2, za_4, za_5, za_6, za_7, za_8, za_9, za_10, za_11, za_12, za_14, za_15, za_22, za_23, za_25, za_26, za_27, za_28, za_29, za_30, za_31, za_32, za_33, za_34, za_35, za_41, za_42, za_43, za_44, za_45, za_46, za_47, za_48, za_49, za_61, za_62, za_63, za_64, za_65, za_71, za_72, za_73, za_74, za_75, za_76, za_77, za_78, za_79, za_80, za_81, za_82, za_83, za_84, za_85, za_86, za_87, za_88, za_89, za_90, za_91, za_92, za_93, za_94, za_95, za_96, za_97, za_98, za_99, za_100, za_101, za_102, za_103, za_104, za_105, za_106, za_107, za_108, e26, e80m1, e81m1, pk_upM, pk_loM, pk_tgt, e85]
      rw [← hm2]
      exact h237
    refine ⟨m', p1, ?_⟩
    rw [hstep, List.map_cons, List.foldl_cons, show Z ++ q0 :: l3 = (Z ++ [q0]) ++ l3 by simp]
    exact p2
