theorem flt_s {f : Nat × Nat → Option (Nat × Nat)} {L : ArL} {j : Nat} {b : Nat × Nat} (h : L[j]? = some b) : (L.take (j + 1)).filterMap f = (L.take j).filterMap f ++ (f b).toList := by
  rw [List.take_add_one, h, List.filterMap_append]
  congr 1
theorem mts_160 {nB : Nat} {LB : ArL} (h : LB.length ≤ 160) (a : Nat × Nat) : (mts nB LB a).length ≤ 160 := Nat.le_trans (List.length_filterMap_le _ _) h
theorem cl_meets {N n st a1 a2 nA nB : Nat} {eA eB' : Int32} {m : Mem} {E : Nat → Bool} {LA LB : ArL} (hN : 40000 < N) (h : DR m n st E []) (hn : n = nA * nB) (hA2 : nA ≤ 32) (hB2 : nB ≤ 32) (ha1 : 200 ≤ a1) (ha2 : 200 ≤ a2) (mA : MC m a1 nA eA LA) (mB : MC m a2 nB eB' LB) (okA : DOK nA LA) (okB : DOK nB LB) (lA : LA.length ≤ 160) (lB : LB.length ≤ 160) :
    ∃ m', Off 3 16 m m' ∧ (((∃ a b, a ∈ LA ∧ b ∈ LB ∧ Dear a b) ∧ F_X7_addMeetings N m a1 a2 = some (nI 0, m')) ∨ ((∀ a b, a ∈ LA → b ∈ LB → ¬ Dear a b) ∧ F_X7_addMeetings N m a1 a2 = some (nI 1, m') ∧ DR m' n st E (LA.flatMap (mts nB LB)))) := by
  have hn2 : n ≤ 1024 := by rw [hn]; exact Nat.mul_le_mul hA2 hB2
  unfold F_X7_addMeetings
  refine loopF (fun f (m : Mem) i => L_X7_addMeetings_2 N f m a1 a2 (nI i)) LA.length (fun i m' => DR m' n st E ((LA.take i).flatMap (mts nB LB)) ∧ Off 3 16 m m' ∧ ∀ a b, a ∈ LA.take i → b ∈ LB → ¬ Dear a b)
    (fun o => ∃ m', Off 3 16 m m' ∧ (((∃ a b, a ∈ LA ∧ b ∈ LB ∧ Dear a b) ∧ o = some (nI 0, m')) ∨ ((∀ a b, a ∈ LA → b ∈ LB → ¬ Dear a b) ∧ o = some (nI 1, m') ∧ DR m' n st E (LA.flatMap (mts nB LB))))) ?_ ?_ N 0 m (Nat.zero_le _) ⟨h, Off.rf, fun a b ha => (by cases ha)⟩ (by omega)
  · rintro f i m1 hi ⟨h1, h2, h3⟩
    obtain ⟨q, hq⟩ : ∃ q, LA[i]? = some q := ⟨_, List.getElem?_eq_getElem hi⟩
    have hqL := List.mem_of_getElem? hq
    have hqm := okA q hqL
    have hq1 := hqm.1
    have hq2 : q.1 / 262144 < nA := hqm.2.1
    have hq3 : q.1 % 1024 < nA := hqm.2.2.1
    have hq4 : q.1 / 16384 % 16 ≤ 8 := hqm.2.2.2.1
    have hq5 : q.1 / 1024 % 16 ≤ 8 := hqm.2.2.2.2.1
    have hq6 : q.2 ≤ 1000000 := hqm.2.2.2.2.2
    have mA1 := mA.off ha1 h2
    have e1 := mA1.2.2.1
    have e2 := (mA1.2.2.2 i q hq).1
    show (∃ s', _ ∧ S_X7_addMeetings_2 N (L_X7_addMeetings_2 N f) m1 a1 a2 (nI i) = L_X7_addMeetings_2 N f s' a1 a2 (nI (i + 1))) ∨ ∃ m', Off 3 16 m m' ∧ (((∃ a b, a ∈ LA ∧ b ∈ LB ∧ Dear a b) ∧ S_X7_addMeetings_2 N (L_X7_addMeetings_2 N f) m1 a1 a2 (nI i) = some (nI 0, m')) ∨ ((∀ a b, a ∈ LA → b ∈ LB → ¬ Dear a b) ∧ S_X7_addMeetings_2 N (L_X7_addMeetings_2 N f) m1 a1 a2 (nI i) = some (nI 1, m') ∧ DR m' n st E (LA.flatMap (mts nB LB))))
    unfold S_X7_addMeetings_2
    simp (disch := omega) only [zi_t, zi_f, bnd_t, zg_in, zx, nI_ltI, nI_leI, nI_eq, nI_add, pk_mul, pk_sub, mup_s, mup_c, mup_j, mrw_c, if_pos, if_neg, zm_1, zm_2, zm_3, zm_4, zm_5, zm_6, zm_7, zm_8, zm_9, zf_0, zf_1, zf_2, zf_3, zf_4, zf_5, zf_6, zf_7, zf_8, zf_9, zf_10, zf_14, zf_15, zf_16, zf_18, zf_19, zf_20, zf_24, zf_30, zf_31, zf_32, zf_33, zf_99, zf_100, zf_160, zf_200, zf_287, zf_288, zf_300, zf_1000, zf_1023, zf_1024, zf_1600, zf_3840, zf_25600, zf_36000, zf_1000000, zf_1000000000, zf_2000000000, zf_11560, za_1, za_2, za_4, za_5, za_6, za_7, za_8, za_9, za_10, za_11, za_12, za_14, za_15, za_22, za_23, za_25, za_26, za_27, za_28, za_29, za_30, za_31, za_32, za_33, za_34, za_35, za_41, za_42, za_43, za_44, za_45, za_46, za_47, za_48, za_49, za_61, za_62, za_63, za_64, za_65, za_70, e1, e2, alen_hi]
    have hfl : ((LA.take i).flatMap (mts nB LB)).length ≤ 160 * i := by
      have := fm_len (h := mts nB LB) (c := 160) (LA.take i) (fun a _ => mts_160 lB a)
      rw [List.length_take] at this
      omega
    refine loopF (fun g (m : Mem) j => L_X7_addMeetings_27 N (L_X7_addMeetings_2 N f) g m a1 a2 (nI i) (nI q.1) (nI j)) LB.length (fun j m' => DR m' n st E ((LA.take i).flatMap (mts nB LB) ++ (LB.take j).filterMap (mt nB q)) ∧ Off 3 16 m m' ∧ ∀ b, b ∈ LB.take j → ¬ Dear q b)
      (fun o => (∃ s', (DR s' n st E ((LA.take (i + 1)).flatMap (mts nB LB)) ∧ Off 3 16 m s' ∧ ∀ a b, a ∈ LA.take (i + 1) → b ∈ LB → ¬ Dear a b) ∧ o = L_X7_addMeetings_2 N f s' a1 a2 (nI (i + 1))) ∨ ∃ m', Off 3 16 m m' ∧ (((∃ a b, a ∈ LA ∧ b ∈ LB ∧ Dear a b) ∧ o = some (nI 0, m')) ∨ ((∀ a b, a ∈ LA → b ∈ LB → ¬ Dear a b) ∧ o = some (nI 1, m') ∧ DR m' n st E (LA.flatMap (mts nB LB))))) ?_ ?_ N 0 m1 (Nat.zero_le _) ⟨by show DR m1 n st E (_ ++ []); rw [List.append_nil]; exact h1, h2, fun b hb => (by cases hb)⟩ (by omega)
    · rintro g j m2 hj ⟨k1, k2, k3⟩
      obtain ⟨b, hb⟩ : ∃ b, LB[j]? = some b := ⟨_, List.getElem?_eq_getElem hj⟩
      have hbL := List.mem_of_getElem? hb
      have hbm := okB b hbL
      have hb1 := hbm.1
      have hb2 : b.1 / 262144 < nB := hbm.2.1
      have hb3 : b.1 % 1024 < nB := hbm.2.2.1
      have hb4 : b.1 / 16384 % 16 ≤ 8 := hbm.2.2.2.1
      have hb5 : b.1 / 1024 % 16 ≤ 8 := hbm.2.2.2.2.1
      have hb6 : b.2 ≤ 1000000 := hbm.2.2.2.2.2
      have mA2 := mA.off ha1 k2
      have mB2 := mB.off ha2 k2
      have x1 := mB2.2.2.1
      have x2 := (mB2.2.2.2 j b hb).1
      have x3 := (mB2.2.2.2 j b hb).2
      have x4 := (mA2.2.2.2 i q hq).2
      have x5 := mB2.1
      have hlast : ∀ c, c ∈ LB.take (j + 1) → c ∈ LB.take j ∨ c = b := by
        intro c hc
        rw [List.take_add_one, hb] at hc
        rcases List.mem_append.mp hc with e | e
        · exact Or.inl e
        · exact Or.inr (List.mem_singleton.mp e)
      have hmt : mt nB q b = if q.1 / 1024 % 16 = 8 then none else if q.1 / 1024 % 16 = b.1 / 16384 % 16 then some (pkA (q.1 / 262144 * nB + b.1 / 262144) (q.1 / 16384 % 16) (b.1 / 1024 % 16) (q.1 % 1024 * nB + b.1 % 1024), q.2 + b.2) else none := rfl
      have skip : mt nB q b = none → ¬ Dear q b → S_X7_addMeetings_27 N (L_X7_addMeetings_2 N f) (L_X7_addMeetings_27 N (L_X7_addMeetings_2 N f) g) m2 a1 a2 (nI i) (nI q.1) (nI j) = L_X7_addMeetings_27 N (L_X7_addMeetings_2 N f) g m2 a1 a2 (nI i) (nI q.1) (nI (j + 1)) →
          (∃ s', (DR s' n st E ((LA.take i).flatMap (mts nB LB) ++ (LB.take (j + 1)).filterMap (mt nB q)) ∧ Off 3 16 m s' ∧ ∀ b, b ∈ LB.take (j + 1) → ¬ Dear q b) ∧ L_X7_addMeetings_27 N (L_X7_addMeetings_2 N f) (g + 1) m2 a1 a2 (nI i) (nI q.1) (nI j) = L_X7_addMeetings_27 N (L_X7_addMeetings_2 N f) g s' a1 a2 (nI i) (nI q.1) (nI (j + 1))) := by
        intro hm hnd he
        refine ⟨m2, ⟨?_, k2, ?_⟩, he⟩
        · rw [flt_s hb, hm]
          show DR m2 n st E (_ ++ (_ ++ []))
          rw [List.append_nil]; exact k1
        · intro c hc
          rcases hlast c hc with e | e
          · exact k3 c e
          · rw [e]; exact hnd
      by_cases c1 : q.1 / 1024 % 16 = 8
      · refine Or.inl (skip (by rw [hmt, if_pos c1]) (fun hd => hd.1 c1) ?_)
        unfold S_X7_addMeetings_27 B_X7_addMeetings_157
        simp (disch := omega) only [zi_t, zi_f, bnd_t, zg_in, zx, nI_ltI, nI_leI, nI_eq, nI_add, pk_mul, pk_sub, mup_s, mup_c, mup_j, mrw_c, if_pos, if_neg, zm_1, zm_2, zm_3, zm_4, zm_5, zm_6, zm_7, zm_8, zm_9, zf_0, zf_1, zf_2, zf_3, zf_4, zf_5, zf_6, zf_7, zf_8, zf_9, zf_10, zf_14, zf_15, zf_16, zf_18, zf_19, zf_20, zf_24, zf_30, zf_31, zf_32, zf_33, zf_99, zf_100, zf_160, zf_200, zf_287, zf_288, zf_300, zf_1000, zf_1023, zf_1024, zf_1600, zf_3840, zf_25600, zf_36000, zf_1000000, zf_1000000000, zf_2000000000, zf_11560, za_1, za_2, za_4, za_5, za_6, za_7, za_8, za_9, za_10, za_11, za_12, za_14, za_15, za_22, za_23, za_25, za_26, za_27, za_28, za_29, za_30, za_31, za_32, za_33, za_34, za_35, za_41, za_42, za_43, za_44, za_45, za_46, za_47, za_48, za_49, za_61, za_62, za_63, za_64, za_65, za_70, x1, x2, alen_hi, pk_lower, pk_upper]
      · by_cases c2 : q.1 / 1024 % 16 = b.1 / 16384 % 16
        · by_cases c3 : q.2 + b.2 ≤ 1000000
          · have s1 := cp_lt hq2 hb2
            have s2 := cp_lt hq3 hb3
            rw [← hn] at s1 s2
            obtain ⟨m3, g1, g2, g3⟩ := dr_addArc (N := N) (s := q.1 / 262144 * nB + b.1 / 262144) (u := q.1 / 16384 % 16) (l := b.1 / 1024 % 16) (t := q.1 % 1024 * nB + b.1 % 1024) (c := q.2 + b.2) k1 hn2 (by
              have := List.length_filterMap_le (mt nB q) (LB.take j)
              rw [List.length_take] at this
              rw [List.length_append]; omega) s1 hq4 hb5 s2
            refine Or.inl ⟨m3, ⟨?_, k2.tr (g3.wd (by omega) (by omega)), ?_⟩, ?_⟩
            · rw [flt_s hb, hmt, if_neg c1, if_pos c2, ← List.append_assoc]
              exact g2
            · intro c hc
              rcases hlast c hc with e | e
              · exact k3 c e
              · rw [e]; intro hd; have := hd.2.2; omega
            · show S_X7_addMeetings_27 N (L_X7_addMeetings_2 N f) (L_X7_addMeetings_27 N (L_X7_addMeetings_2 N f) g) m2 a1 a2 (nI i) (nI q.1) (nI j) = _
              unfold S_X7_addMeetings_27 B_X7_addMeetings_157
              simp (disch := omega) only [zi_t, zi_f, bnd_t, zg_in, zx, nI_ltI, nI_leI, nI_eq, nI_add, pk_mul, pk_sub, mup_s, mup_c, mup_j, mrw_c, if_pos, if_neg, zm_1, zm_2, zm_3, zm_4, zm_5, zm_6, zm_7, zm_8, zm_9, zf_0, zf_1, zf_2, zf_3, zf_4, zf_5, zf_6, zf_7, zf_8, zf_9, zf_10, zf_14, zf_15, zf_16, zf_18, zf_19, zf_20, zf_24, zf_30, zf_31, zf_32, zf_33, zf_99, zf_100, zf_160, zf_200, zf_287, zf_288, zf_300, zf_1000, zf_1023, zf_1024, zf_1600, zf_3840, zf_25600, zf_36000, zf_1000000, zf_1000000000, zf_2000000000, zf_11560, za_1, za_2, za_4, za_5, za_6, za_7, za_8, za_9, za_10, za_11, za_12, za_14, za_15, za_22, za_23, za_25, za_26, za_27, za_28, za_29, za_30, za_31, za_32, za_33, za_34, za_35, za_41, za_42, za_43, za_44, za_45, za_46, za_47, za_48, za_49, za_61, za_62, za_63, za_64, za_65, za_70, x1, x2, x3, x4, x5, alen_hi, pk_lower, pk_upper, pk_from, pk_to]
              rw [calv_t g1]
          · refine Or.inr (Or.inr ⟨m2, k2, Or.inl ⟨⟨q, b, hqL, hbL, c1, c2, by omega⟩, ?_⟩⟩)
            show S_X7_addMeetings_27 N (L_X7_addMeetings_2 N f) (L_X7_addMeetings_27 N (L_X7_addMeetings_2 N f) g) m2 a1 a2 (nI i) (nI q.1) (nI j) = _
            unfold S_X7_addMeetings_27 B_X7_addMeetings_157
            simp (disch := omega) only [zi_t, zi_f, bnd_t, zg_in, zx, nI_ltI, nI_leI, nI_eq, nI_add, pk_mul, pk_sub, mup_s, mup_c, mup_j, mrw_c, if_pos, if_neg, zm_1, zm_2, zm_3, zm_4, zm_5, zm_6, zm_7, zm_8, zm_9, zf_0, zf_1, zf_2, zf_3, zf_4, zf_5, zf_6, zf_7, zf_8, zf_9, zf_10, zf_14, zf_15, zf_16, zf_18, zf_19, zf_20, zf_24, zf_30, zf_31, zf_32, zf_33, zf_99, zf_100, zf_160, zf_200, zf_287, zf_288, zf_300, zf_1000, zf_1023, zf_1024, zf_1600, zf_3840, zf_25600, zf_36000, zf_1000000, zf_1000000000, zf_2000000000, zf_11560, za_1, za_2, za_4, za_5, za_6, za_7, za_8, za_9, za_10, za_11, za_12, za_14, za_15, za_22, za_23, za_25, za_26, za_27, za_28, za_29, za_30, za_31, za_32, za_33, za_34, za_35, za_41, za_42, za_43, za_44, za_45, za_46, za_47, za_48, za_49, za_61, za_62, za_63, za_64, za_65, za_70, x1, x2, x3, x4, x5, alen_hi, pk_lower, pk_upper, pk_from, pk_to]
        · refine Or.inl (skip (by rw [hmt, if_neg c1, if_neg c2]) (fun hd => c2 hd.2.1) ?_)
          unfold S_X7_addMeetings_27 B_X7_addMeetings_157
          simp (disch := omega) only [zi_t, zi_f, bnd_t, zg_in, zx, nI_ltI, nI_leI, nI_eq, nI_add, pk_mul, pk_sub, mup_s, mup_c, mup_j, mrw_c, if_pos, if_neg, zm_1, zm_2, zm_3, zm_4, zm_5, zm_6, zm_7, zm_8, zm_9, zf_0, zf_1, zf_2, zf_3, zf_4, zf_5, zf_6, zf_7, zf_8, zf_9, zf_10, zf_14, zf_15, zf_16, zf_18, zf_19, zf_20, zf_24, zf_30, zf_31, zf_32, zf_33, zf_99, zf_100, zf_160, zf_200, zf_287, zf_288, zf_300, zf_1000, zf_1023, zf_1024, zf_1600, zf_3840, zf_25600, zf_36000, zf_1000000, zf_1000000000, zf_2000000000, zf_11560, za_1, za_2, za_4, za_5, za_6, za_7, za_8, za_9, za_10, za_11, za_12, za_14, za_15, za_22, za_23, za_25, za_26, za_27, za_28, za_29, za_30, za_31, za_32, za_33, za_34, za_35, za_41, za_42, za_43, za_44, za_45, za_46, za_47, za_48, za_49, za_61, za_62, za_63, za_64, za_65, za_70, x1, x2, alen_hi, pk_lower, pk_upper]
    · rintro g m2 ⟨k1, k2, k3⟩
      have x1 := (mB.off ha2 k2).2.2.1
      rw [List.take_of_length_le (Nat.le_refl _)] at k1 k3
      refine Or.inl ⟨m2, ⟨by rw [fm_s hq]; exact k1, k2, ?_⟩, ?_⟩
      · intro a b ha hb
        rw [List.take_add_one, hq] at ha
        rcases List.mem_append.mp ha with e | e
        · exact h3 a b e hb
        · have : a = q := List.mem_singleton.mp e
          rw [this]; exact k3 b hb
      · show S_X7_addMeetings_27 N (L_X7_addMeetings_2 N f) (L_X7_addMeetings_27 N (L_X7_addMeetings_2 N f) g) m2 a1 a2 (nI i) (nI q.1) (nI LB.length) = _
        unfold S_X7_addMeetings_27
        simp (disch := omega) only [zi_t, zi_f, bnd_t, zg_in, zx, nI_ltI, nI_leI, nI_eq, nI_add, pk_mul, pk_sub, mup_s, mup_c, mup_j, mrw_c, if_pos, if_neg, zm_1, zm_2, zm_3, zm_4, zm_5, zm_6, zm_7, zm_8, zm_9, zf_0, zf_1, zf_2, zf_3, zf_4, zf_5, zf_6, zf_7, zf_8, zf_9, zf_10, zf_14, zf_15, zf_16, zf_18, zf_19, zf_20, zf_24, zf_30, zf_31, zf_32, zf_33, zf_99, zf_100, zf_160, zf_200, zf_287, zf_288, zf_300, zf_1000, zf_1023, zf_1024, zf_1600, zf_3840, zf_25600, zf_36000, zf_1000000, zf_1000000000, zf_2000000000, zf_11560, za_1, za_2, za_4, za_5, za_6, za_7, za_8, za_9, za_10, za_11, za_12, za_14, za_15, za_22, za_23, za_25, za_26, za_27, za_28, za_29, za_30, za_31, za_32, za_33, za_34, za_35, za_41, za_42, za_43, za_44, za_45, za_46, za_47, za_48, za_49, za_61, za_62, za_63, za_64, za_65, za_70, x1]
  · rintro f m1 ⟨h1, h2, h3⟩
    rw [List.take_of_length_le (Nat.le_refl _)] at h1 h3
    have e1 := (mA.off ha1 h2).2.2.1
    refine ⟨m1, h2, Or.inr ⟨h3, ?_, h1⟩⟩
    show S_X7_addMeetings_2 N (L_X7_addMeetings_2 N f) m1 a1 a2 (nI LA.length) = _
    unfold S_X7_addMeetings_2
    simp (disch := omega) only [zi_t, zi_f, bnd_t, zg_in, zx, nI_ltI, nI_leI, nI_eq, nI_add, pk_mul, pk_sub, mup_s, mup_c, mup_j, mrw_c, if_pos, if_neg, zm_1, zm_2, zm_3, zm_4, zm_5, zm_6, zm_7, zm_8, zm_9, zf_0, zf_1, zf_2, zf_3, zf_4, zf_5, zf_6, zf_7, zf_8, zf_9, zf_10, zf_14, zf_15, zf_16, zf_18, zf_19, zf_20, zf_24, zf_30, zf_31, zf_32, zf_33, zf_99, zf_100, zf_160, zf_200, zf_287, zf_288, zf_300, zf_1000, zf_1023, zf_1024, zf_1600, zf_3840, zf_25600, zf_36000, zf_1000000, zf_1000000000, zf_2000000000, zf_11560, za_1, za_2, za_4, za_5, za_6, za_7, za_8, za_9, za_10, za_11, za_12, za_14, za_15, za_22, za_23, za_25, za_26, za_27, za_28, za_29, za_30, za_31, za_32, za_33, za_34, za_35, za_41, za_42, za_43, za_44, za_45, za_46, za_47, za_48, za_49, za_61, za_62, za_63, za_64, za_65, za_70, e1]
theorem cl_moves1 {N n st a1 nA nB : Nat} {eA : Int32} {m : Mem} {E : Nat → Bool} {D LA : ArL} (hN : 40000 < N) (h : DR m n st E D) (hn : n = nA * nB) (hA2 : nA ≤ 32) (hB2 : nB ≤ 32) (ha1 : 200 ≤ a1) (mA : MC m a1 nA eA LA) (okA : DOK nA LA) (lA : LA.length ≤ 160) (hD : D.length + (LA.flatMap (mv1 nB)).length ≤ 25600) :
    ∃ m', F_X7_addMovesOfOne N m a1 (nI nB) = some m' ∧ DR m' n st E (D ++ LA.flatMap (mv1 nB)) ∧ Off 3 16 m m' := by
  have hn2 : n ≤ 1024 := by rw [hn]; exact Nat.mul_le_mul hA2 hB2
  unfold F_X7_addMovesOfOne
  refine loopF (fun f (m : Mem) i => L_X7_addMovesOfOne_2 N f m a1 (nI nB) (nI i)) LA.length (fun i m' => DR m' n st E (D ++ (LA.take i).flatMap (mv1 nB)) ∧ Off 3 16 m m')
    (fun o => ∃ m', o = some m' ∧ DR m' n st E (D ++ LA.flatMap (mv1 nB)) ∧ Off 3 16 m m') ?_ ?_ N 0 m (Nat.zero_le _) ⟨by show DR m n st E (D ++ []); rw [List.append_nil]; exact h, Off.rf⟩ (by omega)
  · rintro f i m1 hi ⟨h1, h2⟩
    obtain ⟨q, hq⟩ : ∃ q, LA[i]? = some q := ⟨_, List.getElem?_eq_getElem hi⟩
    have hqm := okA q (List.mem_of_getElem? hq)
    have hq1 := hqm.1
    have hq2 : q.1 / 262144 < nA := hqm.2.1
    have hq3 : q.1 % 1024 < nA := hqm.2.2.1
    have hq4 : q.1 / 16384 % 16 ≤ 8 := hqm.2.2.2.1
    have hq5 : q.1 / 1024 % 16 ≤ 8 := hqm.2.2.2.2.1
    have mA1 := mA.off ha1 h2
    have e1 := mA1.2.2.1
    have e2 := (mA1.2.2.2 i q hq).1
    have hpart := fm_part (h := mv1 nB) hq
    refine Or.inl ?_
    show ∃ s', _ ∧ S_X7_addMovesOfOne_2 N (L_X7_addMovesOfOne_2 N f) m1 a1 (nI nB) (nI i) = L_X7_addMovesOfOne_2 N f s' a1 (nI nB) (nI (i + 1))
    by_cases c1 : q.1 / 1024 % 16 = 8
    · have hmv : mv1 nB q = bA (fun s => (pkA (q.1 / 262144 * nB + s) (q.1 / 16384 % 16) 8 (q.1 % 1024 * nB + s), q.2)) nB := if_pos c1
      rw [hmv, bA_len] at hpart
      unfold S_X7_addMovesOfOne_2
      simp (disch := omega) only [zi_t, zi_f, bnd_t, zg_in, zx, nI_ltI, nI_leI, nI_eq, nI_add, pk_mul, pk_sub, mup_s, mup_c, mup_j, mrw_c, if_pos, if_neg, zm_1, zm_2, zm_3, zm_4, zm_5, zm_6, zm_7, zm_8, zm_9, zf_0, zf_1, zf_2, zf_3, zf_4, zf_5, zf_6, zf_7, zf_8, zf_9, zf_10, zf_14, zf_15, zf_16, zf_18, zf_19, zf_20, zf_24, zf_30, zf_31, zf_32, zf_33, zf_99, zf_100, zf_160, zf_200, zf_287, zf_288, zf_300, zf_1000, zf_1023, zf_1024, zf_1600, zf_3840, zf_25600, zf_36000, zf_1000000, zf_1000000000, zf_2000000000, zf_11560, za_1, za_2, za_4, za_5, za_6, za_7, za_8, za_9, za_10, za_11, za_12, za_14, za_15, za_22, za_23, za_25, za_26, za_27, za_28, za_29, za_30, za_31, za_32, za_33, za_34, za_35, za_41, za_42, za_43, za_44, za_45, za_46, za_47, za_48, za_49, za_61, za_62, za_63, za_64, za_65, za_70, e1, e2, alen_hi, pk_lower]
      refine loopF (fun g (m : Mem) k => L_X7_addMovesOfOne_37 N (L_X7_addMovesOfOne_2 N f) g m a1 (nI nB) (nI i) (nI q.1) (nI k)) nB (fun k m' => DR m' n st E (D ++ (LA.take i).flatMap (mv1 nB) ++ bA (fun s => (pkA (q.1 / 262144 * nB + s) (q.1 / 16384 % 16) 8 (q.1 % 1024 * nB + s), q.2)) k) ∧ Off 3 16 m m')
        (fun o => ∃ s', (DR s' n st E (D ++ (LA.take (i + 1)).flatMap (mv1 nB)) ∧ Off 3 16 m s') ∧ o = L_X7_addMovesOfOne_2 N f s' a1 (nI nB) (nI (i + 1))) ?_ ?_ N 0 m1 (Nat.zero_le _) ⟨by show DR m1 n st E (_ ++ []); rw [List.append_nil]; exact h1, h2⟩ (by omega)
      · rintro g k m2 hk ⟨k1, k2⟩
        have x4 := ((mA.off ha1 k2).2.2.2 i q hq).2
        have s1 := cp_lt hq2 hk
        have s2 := cp_lt hq3 hk
        rw [← hn] at s1 s2
        obtain ⟨m3, g1, g2, g3⟩ := dr_addArc (N := N) (s := q.1 / 262144 * nB + k) (u := q.1 / 16384 % 16) (l := 8) (t := q.1 % 1024 * nB + k) (c := q.2) k1 hn2 (by rw [List.length_append, List.length_append, bA_len]; omega) s1 hq4 (by omega) s2
        refine Or.inl ⟨m3, ⟨by rw [bA_s, ← List.append_assoc]; exact g2, k2.tr (g3.wd (by omega) (by omega))⟩, ?_⟩
        show S_X7_addMovesOfOne_37 N (L_X7_addMovesOfOne_2 N f) (L_X7_addMovesOfOne_37 N (L_X7_addMovesOfOne_2 N f) g) m2 a1 (nI nB) (nI i) (nI q.1) (nI k) = _
        unfold S_X7_addMovesOfOne_37
        simp (disch := omega) only [zi_t, zi_f, bnd_t, zg_in, zx, nI_ltI, nI_leI, nI_eq, nI_add, pk_mul, pk_sub, mup_s, mup_c, mup_j, mrw_c, if_pos, if_neg, zm_1, zm_2, zm_3, zm_4, zm_5, zm_6, zm_7, zm_8, zm_9, zf_0, zf_1, zf_2, zf_3, zf_4, zf_5, zf_6, zf_7, zf_8, zf_9, zf_10, zf_14, zf_15, zf_16, zf_18, zf_19, zf_20, zf_24, zf_30, zf_31, zf_32, zf_33, zf_99, zf_100, zf_160, zf_200, zf_287, zf_288, zf_300, zf_1000, zf_1023, zf_1024, zf_1600, zf_3840, zf_25600, zf_36000, zf_1000000, zf_1000000000, zf_2000000000, zf_11560, za_1, za_2, za_4, za_5, za_6, za_7, za_8, za_9, za_10, za_11, za_12, za_14, za_15, za_22, za_23, za_25, za_26, za_27, za_28, za_29, za_30, za_31, za_32, za_33, za_34, za_35, za_41, za_42, za_43, za_44, za_45, za_46, za_47, za_48, za_49, za_61, za_62, za_63, za_64, za_65, za_70, x4, alen_hi, pk_upper, pk_from, pk_to]
        rw [calv_t g1]
      · rintro g m2 ⟨k1, k2⟩
        refine ⟨m2, ⟨by rw [fm_s hq, hmv, ← List.append_assoc]; exact k1, k2⟩, ?_⟩
        show S_X7_addMovesOfOne_37 N (L_X7_addMovesOfOne_2 N f) (L_X7_addMovesOfOne_37 N (L_X7_addMovesOfOne_2 N f) g) m2 a1 (nI nB) (nI i) (nI q.1) (nI nB) = _
        unfold S_X7_addMovesOfOne_37 B_X7_addMovesOfOne_92
        simp (disch := omega) only [zi_t, zi_f, bnd_t, zg_in, zx, nI_ltI, nI_leI, nI_eq, nI_add, pk_mul, pk_sub, mup_s, mup_c, mup_j, mrw_c, if_pos, if_neg, zm_1, zm_2, zm_3, zm_4, zm_5, zm_6, zm_7, zm_8, zm_9, zf_0, zf_1, zf_2, zf_3, zf_4, zf_5, zf_6, zf_7, zf_8, zf_9, zf_10, zf_14, zf_15, zf_16, zf_18, zf_19, zf_20, zf_24, zf_30, zf_31, zf_32, zf_33, zf_99, zf_100, zf_160, zf_200, zf_287, zf_288, zf_300, zf_1000, zf_1023, zf_1024, zf_1600, zf_3840, zf_25600, zf_36000, zf_1000000, zf_1000000000, zf_2000000000, zf_11560, za_1, za_2, za_4, za_5, za_6, za_7, za_8, za_9, za_10, za_11, za_12, za_14, za_15, za_22, za_23, za_25, za_26, za_27, za_28, za_29, za_30, za_31, za_32, za_33, za_34, za_35, za_41, za_42, za_43, za_44, za_45, za_46, za_47, za_48, za_49, za_61, za_62, za_63, za_64, za_65, za_70]
    · have hmv : mv1 nB q = [] := if_neg c1
      refine ⟨m1, ⟨by rw [fm_s hq, hmv, List.append_nil]; exact h1, h2⟩, ?_⟩
      unfold S_X7_addMovesOfOne_2 B_X7_addMovesOfOne_92
      simp (disch := omega) only [zi_t, zi_f, bnd_t, zg_in, zx, nI_ltI, nI_leI, nI_eq, nI_add, pk_mul, pk_sub, mup_s, mup_c, mup_j, mrw_c, if_pos, if_neg, zm_1, zm_2, zm_3, zm_4, zm_5, zm_6, zm_7, zm_8, zm_9, zf_0, zf_1, zf_2, zf_3, zf_4, zf_5, zf_6, zf_7, zf_8, zf_9, zf_10, zf_14, zf_15, zf_16, zf_18, zf_19, zf_20, zf_24, zf_30, zf_31, zf_32, zf_33, zf_99, zf_100, zf_160, zf_200, zf_287, zf_288, zf_300, zf_1000, zf_1023, zf_1024, zf_1600, zf_3840, zf_25600, zf_36000, zf_1000000, zf_1000000000, zf_2000000000, zf_11560, za_1, za_2, za_4, za_5, za_6, za_7, za_8, za_9, za_10, za_11, za_12, za_14, za_15, za_22, za_23, za_25, za_26, za_27, za_28, za_29, za_30, za_31, za_32, za_33, za_34, za_35, za_41, za_42, za_43, za_44, za_45, za_46, za_47, za_48, za_49, za_61, za_62, za_63, za_64, za_65, za_70, e1, e2, alen_hi, pk_lower]
  · rintro f m1 ⟨h1, h2⟩
    rw [List.take_of_length_le (Nat.le_refl _)] at h1
    have e1 := (mA.off ha1 h2).2.2.1
    refine ⟨m1, ?_, h1, h2⟩
    show S_X7_addMovesOfOne_2 N (L_X7_addMovesOfOne_2 N f) m1 a1 (nI nB) (nI LA.length) = _
    unfold S_X7_addMovesOfOne_2
    simp (disch := omega) only [zi_t, zi_f, bnd_t, zg_in, zx, nI_ltI, nI_leI, nI_eq, nI_add, pk_mul, pk_sub, mup_s, mup_c, mup_j, mrw_c, if_pos, if_neg, zm_1, zm_2, zm_3, zm_4, zm_5, zm_6, zm_7, zm_8, zm_9, zf_0, zf_1, zf_2, zf_3, zf_4, zf_5, zf_6, zf_7, zf_8, zf_9, zf_10, zf_14, zf_15, zf_16, zf_18, zf_19, zf_20, zf_24, zf_30, zf_31, zf_32, zf_33, zf_99, zf_100, zf_160, zf_200, zf_287, zf_288, zf_300, zf_1000, zf_1023, zf_1024, zf_1600, zf_3840, zf_25600, zf_36000, zf_1000000, zf_1000000000, zf_2000000000, zf_11560, za_1, za_2, za_4, za_5, za_6, za_7, za_8, za_9, za_10, za_11, za_12, za_14, za_15, za_22, za_23, za_25, za_26, za_27, za_28, za_29, za_30, za_31, za_32, za_33, za_34, za_35, za_41, za_42, za_43, za_44, za_45, za_46, za_47, za_48, za_49, za_61, za_62, za_63, za_64, za_65, za_70, e1]
theorem cl_moves2 {N n st a2 nA nB : Nat} {eB' : Int32} {m : Mem} {E : Nat → Bool} {D LB : ArL} (hN : 40000 < N) (h : DR m n st E D) (hn : n = nA * nB) (hA2 : nA ≤ 32) (hB2 : nB ≤ 32) (ha2 : 200 ≤ a2) (mB : MC m a2 nB eB' LB) (okB : DOK nB LB) (lB : LB.length ≤ 160) (hD : D.length + (LB.flatMap (mv2 nA nB)).length ≤ 25600) :
    ∃ m', F_X7_addMovesOfOther N m a2 (nI nA) = some m' ∧ DR m' n st E (D ++ LB.flatMap (mv2 nA nB)) ∧ Off 3 16 m m' := by
  have hn2 : n ≤ 1024 := by rw [hn]; exact Nat.mul_le_mul hA2 hB2
  unfold F_X7_addMovesOfOther
  refine loopF (fun f (m : Mem) i => L_X7_addMovesOfOther_2 N f m a2 (nI nA) (nI i)) LB.length (fun i m' => DR m' n st E (D ++ (LB.take i).flatMap (mv2 nA nB)) ∧ Off 3 16 m m')
    (fun o => ∃ m', o = some m' ∧ DR m' n st E (D ++ LB.flatMap (mv2 nA nB)) ∧ Off 3 16 m m') ?_ ?_ N 0 m (Nat.zero_le _) ⟨by show DR m n st E (D ++ []); rw [List.append_nil]; exact h, Off.rf⟩ (by omega)
  · rintro f i m1 hi ⟨h1, h2⟩
    obtain ⟨q, hq⟩ : ∃ q, LB[i]? = some q := ⟨_, List.getElem?_eq_getElem hi⟩
    have hqm := okB q (List.mem_of_getElem? hq)
    have hq1 := hqm.1
    have hq2 : q.1 / 262144 < nB := hqm.2.1
    have hq3 : q.1 % 1024 < nB := hqm.2.2.1
    have hq4 : q.1 / 16384 % 16 ≤ 8 := hqm.2.2.2.1
    have hq5 : q.1 / 1024 % 16 ≤ 8 := hqm.2.2.2.2.1
    have mB1 := mB.off ha2 h2
    have e1 := mB1.2.2.1
    have e2 := (mB1.2.2.2 i q hq).1
    have hpart := fm_part (h := mv2 nA nB) hq
    refine Or.inl ?_
    show ∃ s', _ ∧ S_X7_addMovesOfOther_2 N (L_X7_addMovesOfOther_2 N f) m1 a2 (nI nA) (nI i) = L_X7_addMovesOfOther_2 N f s' a2 (nI nA) (nI (i + 1))
    by_cases c1 : q.1 / 16384 % 16 = 8
    · have hmv : mv2 nA nB q = bA (fun s => (pkA (s * nB + q.1 / 262144) 8 (q.1 / 1024 % 16) (s * nB + q.1 % 1024), q.2)) nA := if_pos c1
      rw [hmv, bA_len] at hpart
      unfold S_X7_addMovesOfOther_2
      simp (disch := omega) only [zi_t, zi_f, bnd_t, zg_in, zx, nI_ltI, nI_leI, nI_eq, nI_add, pk_mul, pk_sub, mup_s, mup_c, mup_j, mrw_c, if_pos, if_neg, zm_1, zm_2, zm_3, zm_4, zm_5, zm_6, zm_7, zm_8, zm_9, zf_0, zf_1, zf_2, zf_3, zf_4, zf_5, zf_6, zf_7, zf_8, zf_9, zf_10, zf_14, zf_15, zf_16, zf_18, zf_19, zf_20, zf_24, zf_30, zf_31, zf_32, zf_33, zf_99, zf_100, zf_160, zf_200, zf_287, zf_288, zf_300, zf_1000, zf_1023, zf_1024, zf_1600, zf_3840, zf_25600, zf_36000, zf_1000000, zf_1000000000, zf_2000000000, zf_11560, za_1, za_2, za_4, za_5, za_6, za_7, za_8, za_9, za_10, za_11, za_12, za_14, za_15, za_22, za_23, za_25, za_26, za_27, za_28, za_29, za_30, za_31, za_32, za_33, za_34, za_35, za_41, za_42, za_43, za_44, za_45, za_46, za_47, za_48, za_49, za_61, za_62, za_63, za_64, za_65, za_70, e1, e2, alen_hi, pk_upper]
      refine loopF (fun g (m : Mem) k => L_X7_addMovesOfOther_37 N (L_X7_addMovesOfOther_2 N f) g m a2 (nI nA) (nI i) (nI q.1) (nI k)) nA (fun k m' => DR m' n st E (D ++ (LB.take i).flatMap (mv2 nA nB) ++ bA (fun s => (pkA (s * nB + q.1 / 262144) 8 (q.1 / 1024 % 16) (s * nB + q.1 % 1024), q.2)) k) ∧ Off 3 16 m m')
        (fun o => ∃ s', (DR s' n st E (D ++ (LB.take (i + 1)).flatMap (mv2 nA nB)) ∧ Off 3 16 m s') ∧ o = L_X7_addMovesOfOther_2 N f s' a2 (nI nA) (nI (i + 1))) ?_ ?_ N 0 m1 (Nat.zero_le _) ⟨by show DR m1 n st E (_ ++ []); rw [List.append_nil]; exact h1, h2⟩ (by omega)
      · rintro g k m2 hk ⟨k1, k2⟩
        have mB2 := mB.off ha2 k2
        have x4 := (mB2.2.2.2 i q hq).2
        have x5 := mB2.1
        have s1 := cp_lt hk hq2
        have s2 := cp_lt hk hq3
        rw [← hn] at s1 s2
        obtain ⟨m3, g1, g2, g3⟩ := dr_addArc (N := N) (s := k * nB + q.1 / 262144) (u := 8) (l := q.1 / 1024 % 16) (t := k * nB + q.1 % 1024) (c := q.2) k1 hn2 (by rw [List.length_append, List.length_append, bA_len]; omega) s1 (by omega) hq5 s2
        refine Or.inl ⟨m3, ⟨by rw [bA_s, ← List.append_assoc]; exact g2, k2.tr (g3.wd (by omega) (by omega))⟩, ?_⟩
        show S_X7_addMovesOfOther_37 N (L_X7_addMovesOfOther_2 N f) (L_X7_addMovesOfOther_37 N (L_X7_addMovesOfOther_2 N f) g) m2 a2 (nI nA) (nI i) (nI q.1) (nI k) = _
        unfold S_X7_addMovesOfOther_37
        simp (disch := omega) only [zi_t, zi_f, bnd_t, zg_in, zx, nI_ltI, nI_leI, nI_eq, nI_add, pk_mul, pk_sub, mup_s, mup_c, mup_j, mrw_c, if_pos, if_neg, zm_1, zm_2, zm_3, zm_4, zm_5, zm_6, zm_7, zm_8, zm_9, zf_0, zf_1, zf_2, zf_3, zf_4, zf_5, zf_6, zf_7, zf_8, zf_9, zf_10, zf_14, zf_15, zf_16, zf_18, zf_19, zf_20, zf_24, zf_30, zf_31, zf_32, zf_33, zf_99, zf_100, zf_160, zf_200, zf_287, zf_288, zf_300, zf_1000, zf_1023, zf_1024, zf_1600, zf_3840, zf_25600, zf_36000, zf_1000000, zf_1000000000, zf_2000000000, zf_11560, za_1, za_2, za_4, za_5, za_6, za_7, za_8, za_9, za_10, za_11, za_12, za_14, za_15, za_22, za_23, za_25, za_26, za_27, za_28, za_29, za_30, za_31, za_32, za_33, za_34, za_35, za_41, za_42, za_43, za_44, za_45, za_46, za_47, za_48, za_49, za_61, za_62, za_63, za_64, za_65, za_70, x4, x5, alen_hi, pk_lower, pk_from, pk_to]
        rw [calv_t g1]
      · rintro g m2 ⟨k1, k2⟩
        refine ⟨m2, ⟨by rw [fm_s hq, hmv, ← List.append_assoc]; exact k1, k2⟩, ?_⟩
        show S_X7_addMovesOfOther_37 N (L_X7_addMovesOfOther_2 N f) (L_X7_addMovesOfOther_37 N (L_X7_addMovesOfOther_2 N f) g) m2 a2 (nI nA) (nI i) (nI q.1) (nI nA) = _
        unfold S_X7_addMovesOfOther_37 B_X7_addMovesOfOther_97
        simp (disch := omega) only [zi_t, zi_f, bnd_t, zg_in, zx, nI_ltI, nI_leI, nI_eq, nI_add, pk_mul, pk_sub, mup_s, mup_c, mup_j, mrw_c, if_pos, if_neg, zm_1, zm_2, zm_3, zm_4, zm_5, zm_6, zm_7, zm_8, zm_9, zf_0, zf_1, zf_2, zf_3, zf_4, zf_5, zf_6, zf_7, zf_8, zf_9, zf_10, zf_14, zf_15, zf_16, zf_18, zf_19, zf_20, zf_24, zf_30, zf_31, zf_32, zf_33, zf_99, zf_100, zf_160, zf_200, zf_287, zf_288, zf_300, zf_1000, zf_1023, zf_1024, zf_1600, zf_3840, zf_25600, zf_36000, zf_1000000, zf_1000000000, zf_2000000000, zf_11560, za_1, za_2, za_4, za_5, za_6, za_7, za_8, za_9, za_10, za_11, za_12, za_14, za_15, za_22, za_23, za_25, za_26, za_27, za_28, za_29, za_30, za_31, za_32, za_33, za_34, za_35, za_41, za_42, za_43, za_44, za_45, za_46, za_47, za_48, za_49, za_61, za_62, za_63, za_64, za_65, za_70]
    · have hmv : mv2 nA nB q = [] := if_neg c1
      refine ⟨m1, ⟨by rw [fm_s hq, hmv, List.append_nil]; exact h1, h2⟩, ?_⟩
      unfold S_X7_addMovesOfOther_2 B_X7_addMovesOfOther_97
      simp (disch := omega) only [zi_t, zi_f, bnd_t, zg_in, zx, nI_ltI, nI_leI, nI_eq, nI_add, pk_mul, pk_sub, mup_s, mup_c, mup_j, mrw_c, if_pos, if_neg, zm_1, zm_2, zm_3, zm_4, zm_5, zm_6, zm_7, zm_8, zm_9, zf_0, zf_1, zf_2, zf_3, zf_4, zf_5, zf_6, zf_7, zf_8, zf_9, zf_10, zf_14, zf_15, zf_16, zf_18, zf_19, zf_20, zf_24, zf_30, zf_31, zf_32, zf_33, zf_99, zf_100, zf_160, zf_200, zf_287, zf_288, zf_300, zf_1000, zf_1023, zf_1024, zf_1600, zf_3840, zf_25600, zf_36000, zf_1000000, zf_1000000000, zf_2000000000, zf_11560, za_1, za_2, za_4, za_5, za_6, za_7, za_8, za_9, za_10, za_11, za_12, za_14, za_15, za_22, za_23, za_25, za_26, za_27, za_28, za_29, za_30, za_31, za_32, za_33, za_34, za_35, za_41, za_42, za_43, za_44, za_45, za_46, za_47, za_48, za_49, za_61, za_62, za_63, za_64, za_65, za_70, e1, e2, alen_hi, pk_upper]
  · rintro f m1 ⟨h1, h2⟩
    rw [List.take_of_length_le (Nat.le_refl _)] at h1
    have e1 := (mB.off ha2 h2).2.2.1
    refine ⟨m1, ?_, h1, h2⟩
    show S_X7_addMovesOfOther_2 N (L_X7_addMovesOfOther_2 N f) m1 a2 (nI nA) (nI LB.length) = _
    unfold S_X7_addMovesOfOther_2
    simp (disch := omega) only [zi_t, zi_f, bnd_t, zg_in, zx, nI_ltI, nI_leI, nI_eq, nI_add, pk_mul, pk_sub, mup_s, mup_c, mup_j, mrw_c, if_pos, if_neg, zm_1, zm_2, zm_3, zm_4, zm_5, zm_6, zm_7, zm_8, zm_9, zf_0, zf_1, zf_2, zf_3, zf_4, zf_5, zf_6, zf_7, zf_8, zf_9, zf_10, zf_14, zf_15, zf_16, zf_18, zf_19, zf_20, zf_24, zf_30, zf_31, zf_32, zf_33, zf_99, zf_100, zf_160, zf_200, zf_287, zf_288, zf_300, zf_1000, zf_1023, zf_1024, zf_1600, zf_3840, zf_25600, zf_36000, zf_1000000, zf_1000000000, zf_2000000000, zf_11560, za_1, za_2, za_4, za_5, za_6, za_7, za_8, za_9, za_10, za_11, za_12, za_14, za_15, za_22, za_23, za_25, za_26, za_27, za_28, za_29, za_30, za_31, za_32, za_33, za_34, za_35, za_41, za_42, za_43, za_44, za_45, za_46, za_47, za_48, za_49, za_61, za_62, za_63, za_64, za_65, za_70, e1]
theorem cl_bothEnds {N n st a1 a2 nA nB : Nat} {fA fB : Nat → Bool} {LA LB : ArL} {m : Mem} {D : ArL} (hN : 40000 < N) (h : DR m n st (fun _ => false) D) (hn : n = nA * nB) (hA2 : nA ≤ 32) (hB1 : 1 ≤ nB) (hB2 : nB ≤ 32) (ha1 : 200 ≤ a1) (ha2 : 200 ≤ a2) (mA : MC m a1 nA (eB fA nA) LA) (mB : MC m a2 nB (eB fB nB) LB) :
    ∃ m', F_X7_addEndsOfBoth N m a1 a2 = some m' ∧ DR m' n st (cpE fA fB nB nA) D ∧ Off 3 16 m m' := by
  have hn2 : n ≤ 1024 := by rw [hn]; exact Nat.mul_le_mul hA2 hB2
  unfold F_X7_addEndsOfBoth
  have e0 : cpE fA fB nB 0 = fun _ => false := by
    funext x
    unfold cpE
    rw [Nat.zero_mul, decide_eq_false (Nat.not_lt_zero _)]; rfl
  refine loopF (fun f (m : Mem) i => L_X7_addEndsOfBoth_2 N f m a1 a2 (nI i)) nA (fun i m' => DR m' n st (cpE fA fB nB i) D ∧ Off 3 16 m m')
    (fun o => ∃ m', o = some m' ∧ DR m' n st (cpE fA fB nB nA) D ∧ Off 3 16 m m') ?_ ?_ N 0 m (Nat.zero_le _) ⟨by rw [e0]; exact h, Off.rf⟩ (by omega)
  · rintro f i m1 hi ⟨h1, h2⟩
    have mA1 := mA.off ha1 h2
    have mB1 := mB.off ha2 h2
    have e1 := mA1.1
    have e2 := mA1.2.1
    have e3 := mB1.1
    have e4 := holds_t (x := eB fA nA) (s := i) (by omega)
    rw [tb_eBin hA2 hi] at e4
    have hs := cpE_s (fA := fA) (fB := fB) (nB := nB) (i := i) hB1
    cases hf : fA i with
    | true =>
      rw [hf, if_pos rfl] at hs
      have hb : i * nB + nB ≤ n := by
        rw [hn]
        have := Nat.mul_le_mul_right nB hi
        rw [Nat.succ_mul] at this
        exact this
      obtain ⟨m2, g1, g2, g3⟩ := dr_addEndsOf (N := N) (b := i * nB) (by omega) h1 hn2 ha2 e3 mB1.2.1 hB2 hb
      refine Or.inl ⟨m2, ⟨by rw [← hs]; exact g2, h2.tr (g3.wd (by omega) (by omega))⟩, ?_⟩
      show S_X7_addEndsOfBoth_2 N (L_X7_addEndsOfBoth_2 N f) m1 a1 a2 (nI i) = _
      unfold S_X7_addEndsOfBoth_2 B_X7_addEndsOfBoth_35
      simp (disch := omega) only [zi_t, zi_f, bnd_t, zg_in, zx, nI_ltI, nI_leI, nI_eq, nI_add, pk_mul, pk_sub, mup_s, mup_c, mup_j, mrw_c, if_pos, if_neg, zm_1, zm_2, zm_3, zm_4, zm_5, zm_6, zm_7, zm_8, zm_9, zf_0, zf_1, zf_2, zf_3, zf_4, zf_5, zf_6, zf_7, zf_8, zf_9, zf_10, zf_14, zf_15, zf_16, zf_18, zf_19, zf_20, zf_24, zf_30, zf_31, zf_32, zf_33, zf_99, zf_100, zf_160, zf_200, zf_287, zf_288, zf_300, zf_1000, zf_1023, zf_1024, zf_1600, zf_3840, zf_25600, zf_36000, zf_1000000, zf_1000000000, zf_2000000000, zf_11560, za_1, za_2, za_4, za_5, za_6, za_7, za_8, za_9, za_10, za_11, za_12, za_14, za_15, za_22, za_23, za_25, za_26, za_27, za_28, za_29, za_30, za_31, za_32, za_33, za_34, za_35, za_41, za_42, za_43, za_44, za_45, za_46, za_47, za_48, za_49, za_61, za_62, za_63, za_64, za_65, za_70, e1, e2, e3, e4, hf, bI_t]
      rw [calv_t g1]
    | false =>
      rw [hf, if_neg (by simp)] at hs
      refine Or.inl ⟨m1, ⟨by rw [← hs]; exact h1, h2⟩, ?_⟩
      show S_X7_addEndsOfBoth_2 N (L_X7_addEndsOfBoth_2 N f) m1 a1 a2 (nI i) = _
      unfold S_X7_addEndsOfBoth_2 B_X7_addEndsOfBoth_35
      simp (disch := omega) only [zi_t, zi_f, bnd_t, zg_in, zx, nI_ltI, nI_leI, nI_eq, nI_add, pk_mul, pk_sub, mup_s, mup_c, mup_j, mrw_c, if_pos, if_neg, zm_1, zm_2, zm_3, zm_4, zm_5, zm_6, zm_7, zm_8, zm_9, zf_0, zf_1, zf_2, zf_3, zf_4, zf_5, zf_6, zf_7, zf_8, zf_9, zf_10, zf_14, zf_15, zf_16, zf_18, zf_19, zf_20, zf_24, zf_30, zf_31, zf_32, zf_33, zf_99, zf_100, zf_160, zf_200, zf_287, zf_288, zf_300, zf_1000, zf_1023, zf_1024, zf_1600, zf_3840, zf_25600, zf_36000, zf_1000000, zf_1000000000, zf_2000000000, zf_11560, za_1, za_2, za_4, za_5, za_6, za_7, za_8, za_9, za_10, za_11, za_12, za_14, za_15, za_22, za_23, za_25, za_26, za_27, za_28, za_29, za_30, za_31, za_32, za_33, za_34, za_35, za_41, za_42, za_43, za_44, za_45, za_46, za_47, za_48, za_49, za_61, za_62, za_63, za_64, za_65, za_70, e1, e2, e3, e4, hf, bI_f]
  · rintro f m1 ⟨h1, h2⟩
    have e1 := (mA.off ha1 h2).1
    refine ⟨m1, ?_, h1, h2⟩
    show S_X7_addEndsOfBoth_2 N (L_X7_addEndsOfBoth_2 N f) m1 a1 a2 (nI nA) = _
    unfold S_X7_addEndsOfBoth_2
    simp (disch := omega) only [zi_t, zi_f, bnd_t, zg_in, zx, nI_ltI, nI_leI, nI_eq, nI_add, pk_mul, pk_sub, mup_s, mup_c, mup_j, mrw_c, if_pos, if_neg, zm_1, zm_2, zm_3, zm_4, zm_5, zm_6, zm_7, zm_8, zm_9, zf_0, zf_1, zf_2, zf_3, zf_4, zf_5, zf_6, zf_7, zf_8, zf_9, zf_10, zf_14, zf_15, zf_16, zf_18, zf_19, zf_20, zf_24, zf_30, zf_31, zf_32, zf_33, zf_99, zf_100, zf_160, zf_200, zf_287, zf_288, zf_300, zf_1000, zf_1023, zf_1024, zf_1600, zf_3840, zf_25600, zf_36000, zf_1000000, zf_1000000000, zf_2000000000, zf_11560, za_1, za_2, za_4, za_5, za_6, za_7, za_8, za_9, za_10, za_11, za_12, za_14, za_15, za_22, za_23, za_25, za_26, za_27, za_28, za_29, za_30, za_31, za_32, za_33, za_34, za_35, za_41, za_42, za_43, za_44, za_45, za_46, za_47, za_48, za_49, za_61, za_62, za_63, za_64, za_65, za_70, e1]
