def plQ (q : Nat × Nat) : Bool := decide (upr q.1 = lwr q.1) && decide (q.2 = 0)
theorem all_take {p : Nat × Nat → Bool} {L : ArL} {i : Nat} {q : Nat × Nat} (h : L[i]? = some q) : (L.take (i + 1)).all p = ((L.take i).all p && p q) := by
  rw [List.take_add_one, h, List.all_append]
  simp
theorem cl_plain {N a n : Nat} {e : Int32} {m : Mem} {L : ArL} (hN : 40000 < N) (ha : 200 ≤ a) (hC : MC m a n e L) (hok : DOK n L) (hl : L.length ≤ 160) : F_X3_hasPlainArcsAlone N m a = some (bI (L.all plQ), m) := by
  unfold F_X3_hasPlainArcsAlone
  refine loopF (σ := Unit) (fun f _ i => L_X3_hasPlainArcsAlone_2 N f m a (nI i)) L.length (fun i _ => (L.take i).all plQ = true) (fun o => o = some (bI (L.all plQ), m)) ?_ ?_ N 0 () (Nat.zero_le _) rfl (by omega)
  · rintro f i _ hi h1
    obtain ⟨q, hq⟩ : ∃ q, L[i]? = some q := ⟨_, List.getElem?_eq_getElem hi⟩
    have hqL := List.mem_of_getElem? hq
    have hqm := hok q hqL
    have hq1 := hqm.1
    have hq6 : q.2 ≤ 1000000 := hqm.2.2.2.2.2
    have hq4 : q.1 / 16384 % 16 ≤ 8 := hqm.2.2.2.1
    have hq5 : q.1 / 1024 % 16 ≤ 8 := hqm.2.2.2.2.1
    have e1 := hC.2.2.1
    have e2 := (hC.2.2.2 i q hq).1
    have e3 := (hC.2.2.2 i q hq).2
    have hno : plQ q = false → L.all plQ = false := by
      intro h
      cases hb : L.all plQ with
      | false => rfl
      | true => rw [List.all_eq_true.mp hb q hqL] at h; cases h
    have hpl : plQ q = (decide (q.1 / 16384 % 16 = q.1 / 1024 % 16) && decide (q.2 = 0)) := rfl
    by_cases c1 : q.1 / 16384 % 16 = q.1 / 1024 % 16
    · by_cases c2 : q.2 = 0
      · refine Or.inl ⟨(), ?_, ?_⟩
        · rw [all_take hq, h1, hpl, decide_eq_true c1, decide_eq_true c2]; rfl
        · show S_X3_hasPlainArcsAlone_2 N (L_X3_hasPlainArcsAlone_2 N f) m a (nI i) = _
          unfold S_X3_hasPlainArcsAlone_2
          simp (disch := omega) only [zi_t, zi_f, bnd_t, zg_in, zx, nI_ltI, nI_leI, nI_eq, nI_add, pk_mul, pk_sub, mup_s, mup_c, mup_j, mrw_c, if_pos, if_neg, zm_1, zm_2, zm_3, zm_4, zm_5, zm_6, zm_7, zm_8, zm_9, zf_0, zf_1, zf_2, zf_3, zf_4, zf_5, zf_6, zf_7, zf_8, zf_9, zf_10, zf_14, zf_15, zf_16, zf_18, zf_19, zf_20, zf_24, zf_30, zf_31, zf_32, zf_33, zf_99, zf_100, zf_160, zf_200, zf_287, zf_288, zf_300, zf_1000, zf_1023, zf_1024, zf_1600, zf_3840, zf_25600, zf_36000, zf_1000000, zf_1000000000, zf_2000000000, zf_11560, za_1, za_2, za_4, za_5, za_6, za_7, za_8, za_9, za_10, za_11, za_12, za_14, za_15, za_22, za_23, za_25, za_26, za_27, za_28, za_29, za_30, za_31, za_32, za_33, za_34, za_35, za_41, za_42, za_43, za_44, za_45, za_46, za_47, za_48, za_49, za_61, za_62, za_63, za_64, za_65, za_70, e1, e2, e3, alen_hi, pk_upper, pk_lower]
      · refine Or.inr ?_
        rw [hno (by rw [hpl, decide_eq_false c2, Bool.and_false])]
        show S_X3_hasPlainArcsAlone_2 N (L_X3_hasPlainArcsAlone_2 N f) m a (nI i) = _
        unfold S_X3_hasPlainArcsAlone_2 B_X3_hasPlainArcsAlone_46
        simp (disch := omega) only [zi_t, zi_f, bnd_t, zg_in, zx, nI_ltI, nI_leI, nI_eq, nI_add, pk_mul, pk_sub, mup_s, mup_c, mup_j, mrw_c, if_pos, if_neg, zm_1, zm_2, zm_3, zm_4, zm_5, zm_6, zm_7, zm_8, zm_9, zf_0, zf_1, zf_2, zf_3, zf_4, zf_5, zf_6, zf_7, zf_8, zf_9, zf_10, zf_14, zf_15, zf_16, zf_18, zf_19, zf_20, zf_24, zf_30, zf_31, zf_32, zf_33, zf_99, zf_100, zf_160, zf_200, zf_287, zf_288, zf_300, zf_1000, zf_1023, zf_1024, zf_1600, zf_3840, zf_25600, zf_36000, zf_1000000, zf_1000000000, zf_2000000000, zf_11560, za_1, za_2, za_4, za_5, za_6, za_7, za_8, za_9, za_10, za_11, za_12, za_14, za_15, za_22, za_23, za_25, za_26, za_27, za_28, za_29, za_30, za_31, za_32, za_33, za_34, za_35, za_41, za_42, za_43, za_44, za_45, za_46, za_47, za_48, za_49, za_61, za_62, za_63, za_64, za_65, za_70, e1, e2, e3, alen_hi, pk_upper, pk_lower]
        rfl
    · refine Or.inr ?_
      rw [hno (by rw [hpl, decide_eq_false c1, Bool.false_and])]
      show S_X3_hasPlainArcsAlone_2 N (L_X3_hasPlainArcsAlone_2 N f) m a (nI i) = _
      unfold S_X3_hasPlainArcsAlone_2 B_X3_hasPlainArcsAlone_46
      simp (disch := omega) only [zi_t, zi_f, bnd_t, zg_in, zx, nI_ltI, nI_leI, nI_eq, nI_add, pk_mul, pk_sub, mup_s, mup_c, mup_j, mrw_c, if_pos, if_neg, zm_1, zm_2, zm_3, zm_4, zm_5, zm_6, zm_7, zm_8, zm_9, zf_0, zf_1, zf_2, zf_3, zf_4, zf_5, zf_6, zf_7, zf_8, zf_9, zf_10, zf_14, zf_15, zf_16, zf_18, zf_19, zf_20, zf_24, zf_30, zf_31, zf_32, zf_33, zf_99, zf_100, zf_160, zf_200, zf_287, zf_288, zf_300, zf_1000, zf_1023, zf_1024, zf_1600, zf_3840, zf_25600, zf_36000, zf_1000000, zf_1000000000, zf_2000000000, zf_11560, za_1, za_2, za_4, za_5, za_6, za_7, za_8, za_9, za_10, za_11, za_12, za_14, za_15, za_22, za_23, za_25, za_26, za_27, za_28, za_29, za_30, za_31, za_32, za_33, za_34, za_35, za_41, za_42, za_43, za_44, za_45, za_46, za_47, za_48, za_49, za_61, za_62, za_63, za_64, za_65, za_70, e1, e2, e3, alen_hi, pk_upper, pk_lower]
      rfl
  · rintro f _ h1
    rw [List.take_of_length_le (Nat.le_refl _)] at h1
    have e1 := hC.2.2.1
    rw [h1]
    show S_X3_hasPlainArcsAlone_2 N (L_X3_hasPlainArcsAlone_2 N f) m a (nI L.length) = _
    unfold S_X3_hasPlainArcsAlone_2
    simp (disch := omega) only [zi_t, zi_f, bnd_t, zg_in, zx, nI_ltI, nI_leI, nI_eq, nI_add, pk_mul, pk_sub, mup_s, mup_c, mup_j, mrw_c, if_pos, if_neg, zm_1, zm_2, zm_3, zm_4, zm_5, zm_6, zm_7, zm_8, zm_9, zf_0, zf_1, zf_2, zf_3, zf_4, zf_5, zf_6, zf_7, zf_8, zf_9, zf_10, zf_14, zf_15, zf_16, zf_18, zf_19, zf_20, zf_24, zf_30, zf_31, zf_32, zf_33, zf_99, zf_100, zf_160, zf_200, zf_287, zf_288, zf_300, zf_1000, zf_1023, zf_1024, zf_1600, zf_3840, zf_25600, zf_36000, zf_1000000, zf_1000000000, zf_2000000000, zf_11560, za_1, za_2, za_4, za_5, za_6, za_7, za_8, za_9, za_10, za_11, za_12, za_14, za_15, za_22, za_23, za_25, za_26, za_27, za_28, za_29, za_30, za_31, za_32, za_33, za_34, za_35, za_41, za_42, za_43, za_44, za_45, za_46, za_47, za_48, za_49, za_61, za_62, za_63, za_64, za_65, za_70, e1]
    rfl
