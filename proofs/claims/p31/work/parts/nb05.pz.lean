def MvT (M : Nat → Int32) (n : Nat) (L K : ArL) : Prop := ∀ s x, s < n → x < 8 → ∀ t, t < 32 → (tb (M (s * 8 + x)) t = true ↔ ∃ q, q ∈ K ∧ fr q.1 = s ∧ upr q.1 = x ∧ Rc (eps L) (too q.1) t)
theorem cl_take {N a a1 n : Nat} {e : Int32} {m : Mem} {L : ArL} (hN : 40000 < N) (ha : a + 3 ≤ 30) (ha1 : 200 ≤ a1) (hal : alen (a + 1) = 32) (hal2 : alen (a + 2) = 256) (hC : MC m a1 n e L) (hok : DOK n L) (hn : n ≤ 32) (hl : L.length ≤ 160) (hacy : Acy upr L) :
    ∃ m', F_X6_take N m a a1 = some m' ∧ SP m' a n e L ∧ Off a (a + 3) m m' := by
  have hl32 := hok.l32 hn
  unfold F_X6_take
  obtain ⟨m2, hm2⟩ : ∃ m2, m2 = mup (mup m a 2 (nI n)) a 3 e := ⟨_, rfl⟩
  have o2 : Off a (a + 3) m m2 := by rw [hm2]; exact (Off.rf.up (by omega) (by omega)).up (by omega) (by omega)
  have hC2 : MC m2 a1 n e L := hC.cg (o2 a1 (by omega)) (o2 (a1 + 1) (by omega)) (o2 (a1 + 1 + 1) (by omega)) (o2 (a1 + 1 + 2) (by omega))
  have h2 : m2 a 2 = nI n := by rw [hm2]; simp (disch := omega) only [zi_t, zi_f, bnd_t, zg_in, zx, nI_ltI, nI_leI, nI_eq, nI_add, pk_mul, pk_sub, mup_s, mup_c, mup_j, mrw_c, if_pos, if_neg, zm_1, zm_2, zm_3, zm_4, zm_5, zm_6, zm_7, zm_8, zm_9, zf_0, zf_1, zf_2, zf_3, zf_4, zf_5, zf_6, zf_7, zf_8, zf_9, zf_10, zf_14, zf_15, zf_16, zf_18, zf_19, zf_20, zf_24, zf_30, zf_31, zf_32, zf_33, zf_99, zf_100, zf_160, zf_200, zf_287, zf_288, zf_300, zf_1000, zf_1023, zf_1024, zf_1600, zf_3840, zf_25600, zf_36000, zf_1000000, zf_1000000000, zf_2000000000, zf_11560, za_1, za_2, za_4, za_5, za_6, za_7, za_8, za_9, za_10, za_11, za_12, za_14, za_15, za_22, za_23, za_25, za_26, za_27, za_28, za_29, za_30, za_31, za_32, za_33, za_34, za_35, za_41, za_42, za_43, za_44, za_45, za_46, za_47, za_48, za_49, za_61, za_62, za_63, za_64, za_65, za_70]
  have h3 : m2 a 3 = e := by rw [hm2]; simp (disch := omega) only [zi_t, zi_f, bnd_t, zg_in, zx, nI_ltI, nI_leI, nI_eq, nI_add, pk_mul, pk_sub, mup_s, mup_c, mup_j, mrw_c, if_pos, if_neg, zm_1, zm_2, zm_3, zm_4, zm_5, zm_6, zm_7, zm_8, zm_9, zf_0, zf_1, zf_2, zf_3, zf_4, zf_5, zf_6, zf_7, zf_8, zf_9, zf_10, zf_14, zf_15, zf_16, zf_18, zf_19, zf_20, zf_24, zf_30, zf_31, zf_32, zf_33, zf_99, zf_100, zf_160, zf_200, zf_287, zf_288, zf_300, zf_1000, zf_1023, zf_1024, zf_1600, zf_3840, zf_25600, zf_36000, zf_1000000, zf_1000000000, zf_2000000000, zf_11560, za_1, za_2, za_4, za_5, za_6, za_7, za_8, za_9, za_10, za_11, za_12, za_14, za_15, za_22, za_23, za_25, za_26, za_27, za_28, za_29, za_30, za_31, za_32, za_33, za_34, za_35, za_41, za_42, za_43, za_44, za_45, za_46, za_47, za_48, za_49, za_61, za_62, za_63, za_64, za_65, za_70]
  obtain ⟨m4, c1, c2, c3⟩ := cl_closures hN ha ha1 hal hC2 h2 hok hn hl hacy
  have hstart : (bnd (mup m a 2 (m a1 1)) fun m1 => bnd (mup m1 a 3 (m1 a1 2)) fun m2 => calv (F_X6_findClosures N m2 a a1) fun m4 => L_X6_take_23 N N m4 a a1 (0 : Int32)) = L_X6_take_23 N N m4 a a1 (nI 0) := by
    have x1 := hC.1
    have x2 := hC.2.1
    simp (disch := omega) only [zi_t, zi_f, bnd_t, zg_in, zx, nI_ltI, nI_leI, nI_eq, nI_add, pk_mul, pk_sub, mup_s, mup_c, mup_j, mrw_c, if_pos, if_neg, zm_1, zm_2, zm_3, zm_4, zm_5, zm_6, zm_7, zm_8, zm_9, zf_0, zf_1, zf_2, zf_3, zf_4, zf_5, zf_6, zf_7, zf_8, zf_9, zf_10, zf_14, zf_15, zf_16, zf_18, zf_19, zf_20, zf_24, zf_30, zf_31, zf_32, zf_33, zf_99, zf_100, zf_160, zf_200, zf_287, zf_288, zf_300, zf_1000, zf_1023, zf_1024, zf_1600, zf_3840, zf_25600, zf_36000, zf_1000000, zf_1000000000, zf_2000000000, zf_11560, za_1, za_2, za_4, za_5, za_6, za_7, za_8, za_9, za_10, za_11, za_12, za_14, za_15, za_22, za_23, za_25, za_26, za_27, za_28, za_29, za_30, za_31, za_32, za_33, za_34, za_35, za_41, za_42, za_43, za_44, za_45, za_46, za_47, za_48, za_49, za_61, za_62, za_63, za_64, za_65, za_70, x1, x2]
    rw [← hm2, calv_t c1]
  rw [hstart]
  have o4 : Off a (a + 3) m m4 := o2.tr (c2.wd (by omega) (by omega))
  have k2 : m4 a 2 = nI n := (c2.at (by omega) 2).trans h2
  have k3 : m4 a 3 = e := (c2.at (by omega) 3).trans h3
  refine loopF (fun f (m : Mem) i => L_X6_take_23 N f m a a1 (nI i)) (n * 8) (fun i m' => Off (a + 2) (a + 3) m4 m' ∧ ∀ j, j < i → m' (a + 2) j = nI 0) (fun o => ∃ m', o = some m' ∧ SP m' a n e L ∧ Off a (a + 3) m m') ?_ ?_ N 0 m4 (Nat.zero_le _) ⟨Off.rf, fun j hj => absurd hj (Nat.not_lt_zero _)⟩ (by omega)
  · rintro f i m1 hi ⟨i1, i2⟩
    have e1 := (i1.at (k := a) (by omega) 2).trans k2
    refine Or.inl ⟨mup m1 (a + 2) i (nI 0), ⟨i1.up (by omega) (by omega), fun s hs => ?_⟩, ?_⟩
    · rw [mup_if]
      split
      · rfl
      · exact i2 s (by omega)
    · show S_X6_take_23 N (L_X6_take_23 N f) m1 a a1 (nI i) = _
      unfold S_X6_take_23
      simp (disch := omega) only [zi_t, zi_f, bnd_t, zg_in, zx, nI_ltI, nI_leI, nI_eq, nI_add, pk_mul, pk_sub, mup_s, mup_c, mup_j, mrw_c, if_pos, if_neg, zm_1, zm_2, zm_3, zm_4, zm_5, zm_6, zm_7, zm_8, zm_9, zf_0, zf_1, zf_2, zf_3, zf_4, zf_5, zf_6, zf_7, zf_8, zf_9, zf_10, zf_14, zf_15, zf_16, zf_18, zf_19, zf_20, zf_24, zf_30, zf_31, zf_32, zf_33, zf_99, zf_100, zf_160, zf_200, zf_287, zf_288, zf_300, zf_1000, zf_1023, zf_1024, zf_1600, zf_3840, zf_25600, zf_36000, zf_1000000, zf_1000000000, zf_2000000000, zf_11560, za_1, za_2, za_4, za_5, za_6, za_7, za_8, za_9, za_10, za_11, za_12, za_14, za_15, za_22, za_23, za_25, za_26, za_27, za_28, za_29, za_30, za_31, za_32, za_33, za_34, za_35, za_41, za_42, za_43, za_44, za_45, za_46, za_47, za_48, za_49, za_61, za_62, za_63, za_64, za_65, za_70, e1, hal2]
  · rintro f m1 ⟨i1, i2⟩
    have e1 := (i1.at (k := a) (by omega) 2).trans k2
    show ∃ m', S_X6_take_23 N (L_X6_take_23 N f) m1 a a1 (nI (n * 8)) = _ ∧ _
    unfold S_X6_take_23
    simp (disch := omega) only [zi_t, zi_f, bnd_t, zg_in, zx, nI_ltI, nI_leI, nI_eq, nI_add, pk_mul, pk_sub, mup_s, mup_c, mup_j, mrw_c, if_pos, if_neg, zm_1, zm_2, zm_3, zm_4, zm_5, zm_6, zm_7, zm_8, zm_9, zf_0, zf_1, zf_2, zf_3, zf_4, zf_5, zf_6, zf_7, zf_8, zf_9, zf_10, zf_14, zf_15, zf_16, zf_18, zf_19, zf_20, zf_24, zf_30, zf_31, zf_32, zf_33, zf_99, zf_100, zf_160, zf_200, zf_287, zf_288, zf_300, zf_1000, zf_1023, zf_1024, zf_1600, zf_3840, zf_25600, zf_36000, zf_1000000, zf_1000000000, zf_2000000000, zf_11560, za_1, za_2, za_4, za_5, za_6, za_7, za_8, za_9, za_10, za_11, za_12, za_14, za_15, za_22, za_23, za_25, za_26, za_27, za_28, za_29, za_30, za_31, za_32, za_33, za_34, za_35, za_41, za_42, za_43, za_44, za_45, za_46, za_47, za_48, za_49, za_61, za_62, za_63, za_64, za_65, za_70, e1]
    refine loopF (fun f (m : Mem) j => L_X6_take_49 N f m a a1 (nI j)) L.length (fun j m' => Off (a + 2) (a + 3) m4 m' ∧ MvT (m' (a + 2)) n L (L.take j)) (fun o => ∃ m', o = some m' ∧ SP m' a n e L ∧ Off a (a + 3) m m') ?_ ?_ N 0 m1 (Nat.zero_le _) ⟨i1, ?_⟩ (by omega)
    · rintro f j m5 hj ⟨j1, j2⟩
      obtain ⟨q, hq⟩ : ∃ q, L[j]? = some q := ⟨_, List.getElem?_eq_getElem hj⟩
      have hqL := List.mem_of_getElem? hq
      have hqm := hok q hqL
      have hq1 := hqm.1
      have hq2 : q.1 / 262144 < n := hqm.2.1
      have hq3 : q.1 % 1024 < n := hqm.2.2.1
      have hq4 : q.1 / 16384 % 16 ≤ 8 := hqm.2.2.2.1
      have oo : Off a (a + 3) m m5 := o4.tr (j1.wd (by omega) (by omega))
      have e1 := (oo.at (k := a1 + 1) (by omega) 2).trans hC.2.2.1
      have e2 := (oo.at (k := a1 + 1 + 1) (by omega) j).trans (hC.2.2.2 j q hq).1
      have e3 := j1.at (k := a + 1) (by omega) (q.1 % 1024)
      have e5 := c3 (q.1 % 1024) hq3
      have hmem : ∀ x, x ∈ L.take (j + 1) ↔ x ∈ L.take j ∨ x = q := by
        intro x
        rw [List.take_add_one, hq]
        show x ∈ L.take j ++ [q] ↔ _
        rw [List.mem_append, List.mem_singleton]
      by_cases c : q.1 / 16384 % 16 = 8
      · refine Or.inl ⟨m5, ⟨j1, fun s x hs hx t ht => ?_⟩, ?_⟩
        · rw [j2 s x hs hx t ht]
          constructor
          · rintro ⟨b, hb, h⟩; exact ⟨b, (hmem b).mpr (Or.inl hb), h⟩
          · rintro ⟨b, hb, h⟩
            rcases (hmem b).mp hb with hb | rfl
            · exact ⟨b, hb, h⟩
            · exfalso
              have h8 : b.1 / 16384 % 16 = x := h.2.1
              omega
        · show S_X6_take_49 N (L_X6_take_49 N f) m5 a a1 (nI j) = _
          unfold S_X6_take_49 B_X6_take_108
          simp (disch := omega) only [zi_t, zi_f, bnd_t, zg_in, zx, nI_ltI, nI_leI, nI_eq, nI_add, pk_mul, pk_sub, mup_s, mup_c, mup_j, mrw_c, if_pos, if_neg, zm_1, zm_2, zm_3, zm_4, zm_5, zm_6, zm_7, zm_8, zm_9, zf_0, zf_1, zf_2, zf_3, zf_4, zf_5, zf_6, zf_7, zf_8, zf_9, zf_10, zf_14, zf_15, zf_16, zf_18, zf_19, zf_20, zf_24, zf_30, zf_31, zf_32, zf_33, zf_99, zf_100, zf_160, zf_200, zf_287, zf_288, zf_300, zf_1000, zf_1023, zf_1024, zf_1600, zf_3840, zf_25600, zf_36000, zf_1000000, zf_1000000000, zf_2000000000, zf_11560, za_1, za_2, za_4, za_5, za_6, za_7, za_8, za_9, za_10, za_11, za_12, za_14, za_15, za_22, za_23, za_25, za_26, za_27, za_28, za_29, za_30, za_31, za_32, za_33, za_34, za_35, za_41, za_42, za_43, za_44, za_45, za_46, za_47, za_48, za_49, za_61, za_62, za_63, za_64, za_65, za_70, e1, e2, alen_hi, pk_upper, c]
      · obtain ⟨v, hv⟩ : ∃ v, v = m5 (a + 2) (q.1 / 262144 * 8 + q.1 / 16384 % 16) ||| m5 (a + 1) (q.1 % 1024) := ⟨_, rfl⟩
        refine Or.inl ⟨mup m5 (a + 2) (q.1 / 262144 * 8 + q.1 / 16384 % 16) v, ⟨j1.up (by omega) (by omega), fun s x hs hx t ht => ?_⟩, ?_⟩
        · show tb (mup m5 (a + 2) (q.1 / 262144 * 8 + q.1 / 16384 % 16) v (a + 2) (s * 8 + x)) t = true ↔ _
          rw [mup_if]
          by_cases es : s * 8 + x = q.1 / 262144 * 8 + q.1 / 16384 % 16
          · have es1 : s = q.1 / 262144 := by omega
            have es2 : x = q.1 / 16384 % 16 := by omega
            rw [if_pos es, hv, tb_or, Bool.or_eq_true, ← es, j2 s x hs hx t ht, e3, e5 t ht]
            constructor
            · rintro (⟨b, hb, h⟩ | h)
              · exact ⟨b, (hmem b).mpr (Or.inl hb), h⟩
              · exact ⟨q, (hmem q).mpr (Or.inr rfl), es1.symm, es2.symm, h⟩
            · rintro ⟨b, hb, h⟩
              rcases (hmem b).mp hb with hb | rfl
              · exact Or.inl ⟨b, hb, h⟩
              · exact Or.inr h.2.2
          · rw [if_neg es, j2 s x hs hx t ht]
            constructor
            · rintro ⟨b, hb, h⟩; exact ⟨b, (hmem b).mpr (Or.inl hb), h⟩
            · rintro ⟨b, hb, h⟩
              rcases (hmem b).mp hb with hb | rfl
              · exact ⟨b, hb, h⟩
              · exfalso
                have h1 : b.1 / 262144 = s := h.1
                have h2 : b.1 / 16384 % 16 = x := h.2.1
                omega
        · show S_X6_take_49 N (L_X6_take_49 N f) m5 a a1 (nI j) = _
          unfold S_X6_take_49 B_X6_take_108
          simp (disch := omega) only [zi_t, zi_f, bnd_t, zg_in, zx, nI_ltI, nI_leI, nI_eq, nI_add, pk_mul, pk_sub, mup_s, mup_c, mup_j, mrw_c, if_pos, if_neg, zm_1, zm_2, zm_3, zm_4, zm_5, zm_6, zm_7, zm_8, zm_9, zf_0, zf_1, zf_2, zf_3, zf_4, zf_5, zf_6, zf_7, zf_8, zf_9, zf_10, zf_14, zf_15, zf_16, zf_18, zf_19, zf_20, zf_24, zf_30, zf_31, zf_32, zf_33, zf_99, zf_100, zf_160, zf_200, zf_287, zf_288, zf_300, zf_1000, zf_1023, zf_1024, zf_1600, zf_3840, zf_25600, zf_36000, zf_1000000, zf_1000000000, zf_2000000000, zf_11560, za_1, za_2, za_4, za_5, za_6, za_7, za_8, za_9, za_10, za_11, za_12, za_14, za_15, za_22, za_23, za_25, za_26, za_27, za_28, za_29, za_30, za_31, za_32, za_33, za_34, za_35, za_41, za_42, za_43, za_44, za_45, za_46, za_47, za_48, za_49, za_61, za_62, za_63, za_64, za_65, za_70, e1, e2, alen_hi, pk_upper, pk_from, pk_to, hal, hal2]
          rw [hv]
    · rintro f m5 ⟨j1, j2⟩
      rw [List.take_of_length_le (Nat.le_refl _)] at j2
      have oo : Off a (a + 3) m m5 := o4.tr (j1.wd (by omega) (by omega))
      have e1 := (oo.at (k := a1 + 1) (by omega) 2).trans hC.2.2.1
      refine ⟨m5, ?_, ⟨(j1.at (by omega) 2).trans k2, (j1.at (by omega) 3).trans k3, fun s hs t ht => ?_, j2⟩, oo⟩
      · show S_X6_take_49 N (L_X6_take_49 N f) m5 a a1 (nI L.length) = _
        unfold S_X6_take_49
        simp (disch := omega) only [zi_t, zi_f, bnd_t, zg_in, zx, nI_ltI, nI_leI, nI_eq, nI_add, pk_mul, pk_sub, mup_s, mup_c, mup_j, mrw_c, if_pos, if_neg, zm_1, zm_2, zm_3, zm_4, zm_5, zm_6, zm_7, zm_8, zm_9, zf_0, zf_1, zf_2, zf_3, zf_4, zf_5, zf_6, zf_7, zf_8, zf_9, zf_10, zf_14, zf_15, zf_16, zf_18, zf_19, zf_20, zf_24, zf_30, zf_31, zf_32, zf_33, zf_99, zf_100, zf_160, zf_200, zf_287, zf_288, zf_300, zf_1000, zf_1023, zf_1024, zf_1600, zf_3840, zf_25600, zf_36000, zf_1000000, zf_1000000000, zf_2000000000, zf_11560, za_1, za_2, za_4, za_5, za_6, za_7, za_8, za_9, za_10, za_11, za_12, za_14, za_15, za_22, za_23, za_25, za_26, za_27, za_28, za_29, za_30, za_31, za_32, za_33, za_34, za_35, za_41, za_42, za_43, za_44, za_45, za_46, za_47, za_48, za_49, za_61, za_62, za_63, za_64, za_65, za_70, e1]
      · rw [j1.at (k := a + 1) (by omega) s]
        exact c3 s hs t ht
    · intro s x hs hx t ht
      rw [i2 (s * 8 + x) (by omega), tb_0]
      constructor
      · intro h; cases h
      · rintro ⟨b, hb, _⟩; cases hb
theorem SP.cg {m m' : Mem} {a n : Nat} {e : Int32} {L : ArL} (h : SP m a n e L) (hf : ∀ k, a ≤ k → k < a + 3 → m' k = m k) : SP m' a n e L := by
  obtain ⟨h1, h2, h3, h4⟩ := h
  exact ⟨by rw [hf a (by omega) (by omega)]; exact h1, by rw [hf a (by omega) (by omega)]; exact h2, fun s hs t ht => by rw [hf (a + 1) (by omega) (by omega)]; exact h3 s hs t ht, fun s x hs hx t ht => by rw [hf (a + 2) (by omega) (by omega)]; exact h4 s x hs hx t ht⟩
theorem cl_setBehind {N a n x : Nat} {e v : Int32} {m : Mem} {L : ArL} (hN : 40000 < N) (h : SP m a n e L) (hal2 : alen (a + 2) = 256) (hok : DOK n L) (hn : n ≤ 32) (hx : x < 8) : F_X6_setBehind N m a v (nI x) = some (mst L x v, m) := by
  obtain ⟨h1, h2, h3, h4⟩ := h
  have key : ∃ r, F_X6_setBehind N m a v (nI x) = some (r, m) ∧ ∀ t, t < 32 → (tb r t = true ↔ ∃ s, s < n ∧ tb v s = true ∧ ∃ q, q ∈ L ∧ fr q.1 = s ∧ upr q.1 = x ∧ Rc (eps L) (too q.1) t) := by
    unfold F_X6_setBehind
    refine loopF (σ := Int32) (fun f r s => L_X6_setBehind_5 N f m a v (nI x) r (nI s)) n (fun i r => ∀ t, t < 32 → (tb r t = true ↔ ∃ s, s < i ∧ tb v s = true ∧ ∃ q, q ∈ L ∧ fr q.1 = s ∧ upr q.1 = x ∧ Rc (eps L) (too q.1) t)) (fun o => ∃ r, o = some (r, m) ∧ ∀ t, t < 32 → (tb r t = true ↔ ∃ s, s < n ∧ tb v s = true ∧ ∃ q, q ∈ L ∧ fr q.1 = s ∧ upr q.1 = x ∧ Rc (eps L) (too q.1) t)) ?_ ?_ N 0 (nI 0) (Nat.zero_le _) ?_ (by omega)
    · rintro f i r hi hI
      have e4 := holds_t (x := v) (s := i) (by omega)
      cases hv : tb v i with
      | false =>
        refine Or.inl ⟨r, fun t ht => ?_, ?_⟩
        · rw [hI t ht]
          constructor
          · rintro ⟨s, hs, h⟩; exact ⟨s, by omega, h⟩
          · rintro ⟨s, hs, h⟩
            have : s ≠ i := by rintro rfl; rw [h.1] at hv; cases hv
            exact ⟨s, by omega, h⟩
        · show S_X6_setBehind_5 N (L_X6_setBehind_5 N f) m a v (nI x) r (nI i) = _
          unfold S_X6_setBehind_5 B_X6_setBehind_38
          simp (disch := omega) only [zi_t, zi_f, bnd_t, zg_in, zx, nI_ltI, nI_leI, nI_eq, nI_add, pk_mul, pk_sub, mup_s, mup_c, mup_j, mrw_c, if_pos, if_neg, zm_1, zm_2, zm_3, zm_4, zm_5, zm_6, zm_7, zm_8, zm_9, zf_0, zf_1, zf_2, zf_3, zf_4, zf_5, zf_6, zf_7, zf_8, zf_9, zf_10, zf_14, zf_15, zf_16, zf_18, zf_19, zf_20, zf_24, zf_30, zf_31, zf_32, zf_33, zf_99, zf_100, zf_160, zf_200, zf_287, zf_288, zf_300, zf_1000, zf_1023, zf_1024, zf_1600, zf_3840, zf_25600, zf_36000, zf_1000000, zf_1000000000, zf_2000000000, zf_11560, za_1, za_2, za_4, za_5, za_6, za_7, za_8, za_9, za_10, za_11, za_12, za_14, za_15, za_22, za_23, za_25, za_26, za_27, za_28, za_29, za_30, za_31, za_32, za_33, za_34, za_35, za_41, za_42, za_43, za_44, za_45, za_46, za_47, za_48, za_49, za_61, za_62, za_63, za_64, za_65, za_70, h1, e4, hv, bI_f]
      | true =>
        refine Or.inl ⟨r ||| m (a + 2) (i * 8 + x), fun t ht => ?_, ?_⟩
        · rw [tb_or, Bool.or_eq_true, hI t ht, h4 i x hi hx t ht]
          constructor
          · rintro (⟨s, hs, h⟩ | h)
            · exact ⟨s, by omega, h⟩
            · exact ⟨i, by omega, hv, h⟩
          · rintro ⟨s, hs, h⟩
            by_cases es : s = i
            · rw [es] at h; exact Or.inr h.2
            · exact Or.inl ⟨s, by omega, h⟩
        · show S_X6_setBehind_5 N (L_X6_setBehind_5 N f) m a v (nI x) r (nI i) = _
          unfold S_X6_setBehind_5 B_X6_setBehind_38
          simp (disch := omega) only [zi_t, zi_f, bnd_t, zg_in, zx, nI_ltI, nI_leI, nI_eq, nI_add, pk_mul, pk_sub, mup_s, mup_c, mup_j, mrw_c, if_pos, if_neg, zm_1, zm_2, zm_3, zm_4, zm_5, zm_6, zm_7, zm_8, zm_9, zf_0, zf_1, zf_2, zf_3, zf_4, zf_5, zf_6, zf_7, zf_8, zf_9, zf_10, zf_14, zf_15, zf_16, zf_18, zf_19, zf_20, zf_24, zf_30, zf_31, zf_32, zf_33, zf_99, zf_100, zf_160, zf_200, zf_287, zf_288, zf_300, zf_1000, zf_1023, zf_1024, zf_1600, zf_3840, zf_25600, zf_36000, zf_1000000, zf_1000000000, zf_2000000000, zf_11560, za_1, za_2, za_4, za_5, za_6, za_7, za_8, za_9, za_10, za_11, za_12, za_14, za_15, za_22, za_23, za_25, za_26, za_27, za_28, za_29, za_30, za_31, za_32, za_33, za_34, za_35, za_41, za_42, za_43, za_44, za_45, za_46, za_47, za_48, za_49, za_61, za_62, za_63, za_64, za_65, za_70, h1, e4, hv, bI_t, hal2]
    · rintro f r hI
      refine ⟨r, ?_, hI⟩
      show S_X6_setBehind_5 N (L_X6_setBehind_5 N f) m a v (nI x) r (nI n) = _
      unfold S_X6_setBehind_5
      simp (disch := omega) only [zi_t, zi_f, bnd_t, zg_in, zx, nI_ltI, nI_leI, nI_eq, nI_add, pk_mul, pk_sub, mup_s, mup_c, mup_j, mrw_c, if_pos, if_neg, zm_1, zm_2, zm_3, zm_4, zm_5, zm_6, zm_7, zm_8, zm_9, zf_0, zf_1, zf_2, zf_3, zf_4, zf_5, zf_6, zf_7, zf_8, zf_9, zf_10, zf_14, zf_15, zf_16, zf_18, zf_19, zf_20, zf_24, zf_30, zf_31, zf_32, zf_33, zf_99, zf_100, zf_160, zf_200, zf_287, zf_288, zf_300, zf_1000, zf_1023, zf_1024, zf_1600, zf_3840, zf_25600, zf_36000, zf_1000000, zf_1000000000, zf_2000000000, zf_11560, za_1, za_2, za_4, za_5, za_6, za_7, za_8, za_9, za_10, za_11, za_12, za_14, za_15, za_22, za_23, za_25, za_26, za_27, za_28, za_29, za_30, za_31, za_32, za_33, za_34, za_35, za_41, za_42, za_43, za_44, za_45, za_46, za_47, za_48, za_49, za_61, za_62, za_63, za_64, za_65, za_70, h1]
    · intro t ht
      rw [tb_0]
      constructor
      · intro h; cases h
      · rintro ⟨s, hs, _⟩; omega
  obtain ⟨r, g1, g2⟩ := key
  have : StpS L x v r := by
    intro t ht
    rw [g2 t ht]
    constructor
    · rintro ⟨s, hs, hv, q, hq, e1, e2, hr⟩
      exact ⟨q, hq, e2, by rw [e1]; exact hv, hr⟩
    · rintro ⟨q, hq, e2, hv, hr⟩
      exact ⟨fr q.1, (hok q hq).2.1, hv, q, hq, rfl, e2, hr⟩
  rw [g1, this.uq (mst_spec hok hn)]
theorem cl_firstSet {N a n : Nat} {e : Int32} {m : Mem} {L : ArL} (h : SP m a n e L) (hal : alen (a + 1) = 32) (hok : DOK n L) (hn : n ≤ 32) (h1 : 1 ≤ n) : F_X6_firstSet N m a = some (mfi L, m) := by
  have e2 := h.1
  have e3 : m (a + 1) 0 = mfi L := tb_uq (fun s hs => (h.2.2.1 0 (by omega) s hs).trans (mfi_spec hok hn h1 s hs).symm)
  unfold F_X6_firstSet B_X6_firstSet_17
  simp (disch := omega) only [zi_t, zi_f, bnd_t, zg_in, zx, nI_ltI, nI_leI, nI_eq, nI_add, pk_mul, pk_sub, mup_s, mup_c, mup_j, mrw_c, if_pos, if_neg, zm_1, zm_2, zm_3, zm_4, zm_5, zm_6, zm_7, zm_8, zm_9, zf_0, zf_1, zf_2, zf_3, zf_4, zf_5, zf_6, zf_7, zf_8, zf_9, zf_10, zf_14, zf_15, zf_16, zf_18, zf_19, zf_20, zf_24, zf_30, zf_31, zf_32, zf_33, zf_99, zf_100, zf_160, zf_200, zf_287, zf_288, zf_300, zf_1000, zf_1023, zf_1024, zf_1600, zf_3840, zf_25600, zf_36000, zf_1000000, zf_1000000000, zf_2000000000, zf_11560, za_1, za_2, za_4, za_5, za_6, za_7, za_8, za_9, za_10, za_11, za_12, za_14, za_15, za_22, za_23, za_25, za_26, za_27, za_28, za_29, za_30, za_31, za_32, za_33, za_34, za_35, za_41, za_42, za_43, za_44, za_45, za_46, za_47, za_48, za_49, za_61, za_62, za_63, za_64, za_65, za_70, e2, hal, e3]
def SN (m : Mem) (a : Nat) : Prop := m a 2 = nI 0 ∧ m a 3 = nI 0
theorem cl_nothing {N a : Nat} {m : Mem} : ∃ m', F_X6_takeNothing N m a = some m' ∧ SN m' a ∧ Off a (a + 3) m m' := by
  refine ⟨mup (mup m a 2 (nI 0)) a 3 (nI 0), ?_, ⟨by simp (disch := omega) only [zi_t, zi_f, bnd_t, zg_in, zx, nI_ltI, nI_leI, nI_eq, nI_add, pk_mul, pk_sub, mup_s, mup_c, mup_j, mrw_c, if_pos, if_neg, zm_1, zm_2, zm_3, zm_4, zm_5, zm_6, zm_7, zm_8, zm_9, zf_0, zf_1, zf_2, zf_3, zf_4, zf_5, zf_6, zf_7, zf_8, zf_9, zf_10, zf_14, zf_15, zf_16, zf_18, zf_19, zf_20, zf_24, zf_30, zf_31, zf_32, zf_33, zf_99, zf_100, zf_160, zf_200, zf_287, zf_288, zf_300, zf_1000, zf_1023, zf_1024, zf_1600, zf_3840, zf_25600, zf_36000, zf_1000000, zf_1000000000, zf_2000000000, zf_11560, za_1, za_2, za_4, za_5, za_6, za_7, za_8, za_9, za_10, za_11, za_12, za_14, za_15, za_22, za_23, za_25, za_26, za_27, za_28, za_29, za_30, za_31, za_32, za_33, za_34, za_35, za_41, za_42, za_43, za_44, za_45, za_46, za_47, za_48, za_49, za_61, za_62, za_63, za_64, za_65, za_70], by simp (disch := omega) only [zi_t, zi_f, bnd_t, zg_in, zx, nI_ltI, nI_leI, nI_eq, nI_add, pk_mul, pk_sub, mup_s, mup_c, mup_j, mrw_c, if_pos, if_neg, zm_1, zm_2, zm_3, zm_4, zm_5, zm_6, zm_7, zm_8, zm_9, zf_0, zf_1, zf_2, zf_3, zf_4, zf_5, zf_6, zf_7, zf_8, zf_9, zf_10, zf_14, zf_15, zf_16, zf_18, zf_19, zf_20, zf_24, zf_30, zf_31, zf_32, zf_33, zf_99, zf_100, zf_160, zf_200, zf_287, zf_288, zf_300, zf_1000, zf_1023, zf_1024, zf_1600, zf_3840, zf_25600, zf_36000, zf_1000000, zf_1000000000, zf_2000000000, zf_11560, za_1, za_2, za_4, za_5, za_6, za_7, za_8, za_9, za_10, za_11, za_12, za_14, za_15, za_22, za_23, za_25, za_26, za_27, za_28, za_29, za_30, za_31, za_32, za_33, za_34, za_35, za_41, za_42, za_43, za_44, za_45, za_46, za_47, za_48, za_49, za_61, za_62, za_63, za_64, za_65, za_70]⟩, (Off.rf.up (by omega) (by omega)).up (by omega) (by omega)⟩
  unfold F_X6_takeNothing
  simp (disch := omega) only [zi_t, zi_f, bnd_t, zg_in, zx, nI_ltI, nI_leI, nI_eq, nI_add, pk_mul, pk_sub, mup_s, mup_c, mup_j, mrw_c, if_pos, if_neg, zm_1, zm_2, zm_3, zm_4, zm_5, zm_6, zm_7, zm_8, zm_9, zf_0, zf_1, zf_2, zf_3, zf_4, zf_5, zf_6, zf_7, zf_8, zf_9, zf_10, zf_14, zf_15, zf_16, zf_18, zf_19, zf_20, zf_24, zf_30, zf_31, zf_32, zf_33, zf_99, zf_100, zf_160, zf_200, zf_287, zf_288, zf_300, zf_1000, zf_1023, zf_1024, zf_1600, zf_3840, zf_25600, zf_36000, zf_1000000, zf_1000000000, zf_2000000000, zf_11560, za_1, za_2, za_4, za_5, za_6, za_7, za_8, za_9, za_10, za_11, za_12, za_14, za_15, za_22, za_23, za_25, za_26, za_27, za_28, za_29, za_30, za_31, za_32, za_33, za_34, za_35, za_41, za_42, za_43, za_44, za_45, za_46, za_47, za_48, za_49, za_61, za_62, za_63, za_64, za_65, za_70]
theorem sn_setBehind {N a x : Nat} {v : Int32} {m : Mem} (hN : 40000 < N) (h : SN m a) : F_X6_setBehind N m a v (nI x) = some (nI 0, m) := by
  have e := h.1
  unfold F_X6_setBehind
  obtain ⟨g, rfl⟩ : ∃ g, N = g + 1 := ⟨N - 1, by omega⟩
  show S_X6_setBehind_5 (g + 1) (L_X6_setBehind_5 (g + 1) g) m a v (nI x) (nI 0) (nI 0) = _
  unfold S_X6_setBehind_5
  simp (disch := omega) only [zi_t, zi_f, bnd_t, zg_in, zx, nI_ltI, nI_leI, nI_eq, nI_add, pk_mul, pk_sub, mup_s, mup_c, mup_j, mrw_c, if_pos, if_neg, zm_1, zm_2, zm_3, zm_4, zm_5, zm_6, zm_7, zm_8, zm_9, zf_0, zf_1, zf_2, zf_3, zf_4, zf_5, zf_6, zf_7, zf_8, zf_9, zf_10, zf_14, zf_15, zf_16, zf_18, zf_19, zf_20, zf_24, zf_30, zf_31, zf_32, zf_33, zf_99, zf_100, zf_160, zf_200, zf_287, zf_288, zf_300, zf_1000, zf_1023, zf_1024, zf_1600, zf_3840, zf_25600, zf_36000, zf_1000000, zf_1000000000, zf_2000000000, zf_11560, za_1, za_2, za_4, za_5, za_6, za_7, za_8, za_9, za_10, za_11, za_12, za_14, za_15, za_22, za_23, za_25, za_26, za_27, za_28, za_29, za_30, za_31, za_32, za_33, za_34, za_35, za_41, za_42, za_43, za_44, za_45, za_46, za_47, za_48, za_49, za_61, za_62, za_63, za_64, za_65, za_70, e]
theorem sn_firstSet {N a : Nat} {m : Mem} (h : SN m a) : F_X6_firstSet N m a = some (nI 0, m) := by
  have e := h.1
  unfold F_X6_firstSet B_X6_firstSet_17
  simp (disch := omega) only [zi_t, zi_f, bnd_t, zg_in, zx, nI_ltI, nI_leI, nI_eq, nI_add, pk_mul, pk_sub, mup_s, mup_c, mup_j, mrw_c, if_pos, if_neg, zm_1, zm_2, zm_3, zm_4, zm_5, zm_6, zm_7, zm_8, zm_9, zf_0, zf_1, zf_2, zf_3, zf_4, zf_5, zf_6, zf_7, zf_8, zf_9, zf_10, zf_14, zf_15, zf_16, zf_18, zf_19, zf_20, zf_24, zf_30, zf_31, zf_32, zf_33, zf_99, zf_100, zf_160, zf_200, zf_287, zf_288, zf_300, zf_1000, zf_1023, zf_1024, zf_1600, zf_3840, zf_25600, zf_36000, zf_1000000, zf_1000000000, zf_2000000000, zf_11560, za_1, za_2, za_4, za_5, za_6, za_7, za_8, za_9, za_10, za_11, za_12, za_14, za_15, za_22, za_23, za_25, za_26, za_27, za_28, za_29, za_30, za_31, za_32, za_33, za_34, za_35, za_41, za_42, za_43, za_44, za_45, za_46, za_47, za_48, za_49, za_61, za_62, za_63, za_64, za_65, za_70, e]
theorem and_0 (v : Int32) : v &&& nI 0 = nI 0 := by
  apply tb_ext
  intro s hs
  rw [tb_and, tb_0, Bool.and_false]
