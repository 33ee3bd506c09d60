theorem lb_at {L : ArL} {p k : Nat} (hs : Srt L) (h : (p, k) ∈ L) : L[lb L p]? = some (p, k) := by
  obtain ⟨j, hj⟩ := List.getElem?_of_mem h
  have h1 := lb_iff p hs j _ hj
  have hjl := (List.getElem?_eq_some_iff.mp hj).1
  have h2 : ¬ j < lb L p := fun h => absurd (h1.mpr h) (Nat.lt_irrefl _)
  rcases Nat.lt_or_ge (lb L p) j with h3 | h3
  · obtain ⟨q, hq⟩ : ∃ q, L[lb L p]? = some q := ⟨_, List.getElem?_eq_getElem (by omega)⟩
    have h4 := lb_iff p hs _ q hq
    have h5 := lb_iff q.1 hs j _ hj
    have h6 := lb_iff q.1 hs _ q hq
    have h7 : ¬ q.1 < p := fun h => absurd (h4.mp h) (Nat.lt_irrefl _)
    have h8 : ¬ lb L p < lb L q.1 := fun h => absurd (h6.mpr h) (Nat.lt_irrefl _)
    have h10 := List.pairwise_iff_getElem.mp hs (lb L p) j (by omega) hjl h3
    rw [List.getElem?_eq_getElem (by omega)] at hq
    rw [List.getElem?_eq_getElem hjl] at hj
    rw [Option.some.inj hq, Option.some.inj hj] at h10
    have h10 : q.1 < p := h10
    omega
  · rw [show lb L p = j by omega]; exact hj
theorem insR_new : ∀ (L : ArL) (p k : Nat), Srt L → (∀ k0, ¬ (p, k0) ∈ L) → insR L p k = L.take (lb L p) ++ (p, k) :: L.drop (lb L p)
  | [], p, k, _, _ => rfl
  | x :: L, p, k, hs, h => by
    have a := List.pairwise_cons.mp hs
    rw [insR, lb_cons]
    by_cases h1 : p < x.1
    · rw [if_pos h1, if_neg (by omega), lb_none (fun y hy => by have := a.1 y hy; omega)]
      rfl
    · by_cases h2 : p = x.1
      · exact absurd (List.mem_cons.mpr (Or.inl (by rw [h2]))) (h x.2)
      · rw [if_neg h1, if_neg h2, if_pos (by omega), insR_new L p k a.2 (fun k0 hk => h k0 (List.mem_cons_of_mem _ hk))]
        rfl
theorem insR_old : ∀ (L : ArL) (p k k0 : Nat), Srt L → L[lb L p]? = some (p, k0) → insR L p k = L.set (lb L p) (p, min k k0)
  | [], p, k, k0, _, h => by simp at h
  | x :: L, p, k, k0, hs, h => by
    have a := List.pairwise_cons.mp hs
    rw [lb_cons] at h
    rw [insR, lb_cons]
    by_cases h1 : p < x.1
    · rw [if_neg (by omega), lb_none (fun y hy => by have := a.1 y hy; omega), List.getElem?_cons_zero] at h
      rw [Option.some.inj h] at h1
      exact absurd h1 (Nat.lt_irrefl _)
    · by_cases h2 : p = x.1
      · rw [if_neg (by omega), lb_none (fun y hy => by have := a.1 y hy; omega), List.getElem?_cons_zero] at h
        rw [if_neg h1, if_pos h2, if_neg (by omega), lb_none (fun y hy => by have := a.1 y hy; omega), Option.some.inj h]
        rfl
      · rw [if_pos (by omega), List.getElem?_cons_succ] at h
        rw [if_neg h1, if_neg h2, if_pos (by omega), insR_old L p k k0 a.2 h]
        rfl
theorem half_nI {a b : Nat} (h : a + b < 2 ^ 31) : nI (a + b) / nI 2 = nI ((a + b) / 2) := pk_div h (by omega) (by omega)
theorem pz_placeOf {N a : Nat} {m : Mem} {L : ArL} {p : Nat} (hN : 200 ≤ N) (hk : knd a = 0) (hA : AR m a L) (hS : Srt L) (hsm : sm L) (hc : L.length ≤ 160) (hp : p < 2 ^ 30) : F_X0_placeOf N m a (nI p) = some (nI (lb L p), m) := by
  unfold F_X0_placeOf
  rw [hA.1]
  have hal := (kA12 hk).2.2.1
  have hle := lb_le L p
  refine loopW (σ := Nat × Nat × Nat) (fun f s => L_X0_placeOf_10 N f m a (nI p) (nI s.1) (nI s.2.1) (nI s.2.2)) (fun s => s.1 ≤ lb L p ∧ lb L p ≤ s.2.1 ∧ s.2.1 ≤ L.length ∧ s.2.1 - s.1 + s.2.2 ≤ 160) (fun s => s.2.1 - s.1) (fun o => o = some (nI (lb L p), m)) ?_ N (0, L.length, 0) ⟨Nat.zero_le _, hle, Nat.le_refl _, by show L.length - 0 + 0 ≤ 160; omega⟩ (by show L.length - 0 < N; omega)
  rintro f ⟨lo, hi, t⟩ ⟨h1, h2, h3, h4⟩
  dsimp only at h1 h2 h3 h4
  show (∃ s', _ ∧ _ ∧ S_X0_placeOf_10 N (L_X0_placeOf_10 N f) m a (nI p) (nI lo) (nI hi) (nI t) = _) ∨ S_X0_placeOf_10 N (L_X0_placeOf_10 N f) m a (nI p) (nI lo) (nI hi) (nI t) = _
  unfold S_X0_placeOf_10 B_X0_placeOf_58 B_X0_placeOf_52
  by_cases hlt : lo < hi
  · obtain ⟨q, hq⟩ : ∃ q, L[(lo + hi) / 2]? = some q := ⟨_, List.getElem?_eq_getElem (by omega)⟩
    have hb := lb_iff p hS _ q hq
    have hv := (hA.2 _ q hq).1
    have hq30 := (hsm q (List.mem_of_getElem? hq)).1
    by_cases hlt2 : q.1 < p
    · have := hb.mp hlt2
      refine Or.inl ⟨((lo + hi) / 2 + 1, hi, t + 1), ⟨by show (lo + hi) / 2 + 1 ≤ _; omega, h2, h3, by show hi - ((lo + hi) / 2 + 1) + (t + 1) ≤ 160; omega⟩, by show hi - ((lo + hi) / 2 + 1) < hi - lo; omega, ?_⟩
      simp (disch := omega) only [zi_t, zi_f, bnd_t, zg_in, zx, nI_ltI, nI_leI, nI_eq, nI_add, pk_mul, pk_sub, mup_s, mup_c, mup_j, mrw_c, if_pos, if_neg, zm_1, zm_2, zm_3, zm_4, zm_5, zm_6, zm_7, zm_8, zm_9, zf_0, zf_1, zf_2, zf_3, zf_4, zf_5, zf_6, zf_7, zf_8, zf_9, zf_10, zf_14, zf_15, zf_16, zf_18, zf_19, zf_20, zf_24, zf_30, zf_31, zf_32, zf_33, zf_99, zf_100, zf_160, zf_200, zf_287, zf_288, zf_300, zf_1000, zf_1023, zf_1024, zf_1600, zf_3840, zf_25600, zf_36000, zf_1000000, zf_1000000000, zf_2000000000, zf_11560, za_1, za_2, za_4, za_5, za_6, za_7, za_8, za_9, za_10, za_11, za_12, za_14, za_15, za_22, za_23, za_25, za_26, za_27, za_28, za_29, za_30, za_31, za_32, za_33, za_34, za_35, za_41, za_42, za_43, za_44, za_45, za_46, za_47, za_48, za_49, za_61, za_62, za_63, za_64, za_65, za_70, hal, half_nI, hv]
    · have : ¬ (lo + hi) / 2 < lb L p := fun h => hlt2 (hb.mpr h)
      refine Or.inl ⟨(lo, (lo + hi) / 2, t + 1), ⟨h1, by show lb L p ≤ (lo + hi) / 2; omega, by show (lo + hi) / 2 ≤ _; omega, by show (lo + hi) / 2 - lo + (t + 1) ≤ 160; omega⟩, by show (lo + hi) / 2 - lo < hi - lo; omega, ?_⟩
      simp (disch := omega) only [zi_t, zi_f, bnd_t, zg_in, zx, nI_ltI, nI_leI, nI_eq, nI_add, pk_mul, pk_sub, mup_s, mup_c, mup_j, mrw_c, if_pos, if_neg, zm_1, zm_2, zm_3, zm_4, zm_5, zm_6, zm_7, zm_8, zm_9, zf_0, zf_1, zf_2, zf_3, zf_4, zf_5, zf_6, zf_7, zf_8, zf_9, zf_10, zf_14, zf_15, zf_16, zf_18, zf_19, zf_20, zf_24, zf_30, zf_31, zf_32, zf_33, zf_99, zf_100, zf_160, zf_200, zf_287, zf_288, zf_300, zf_1000, zf_1023, zf_1024, zf_1600, zf_3840, zf_25600, zf_36000, zf_1000000, zf_1000000000, zf_2000000000, zf_11560, za_1, za_2, za_4, za_5, za_6, za_7, za_8, za_9, za_10, za_11, za_12, za_14, za_15, za_22, za_23, za_25, za_26, za_27, za_28, za_29, za_30, za_31, za_32, za_33, za_34, za_35, za_41, za_42, za_43, za_44, za_45, za_46, za_47, za_48, za_49, za_61, za_62, za_63, za_64, za_65, za_70, hal, half_nI, hv]
  · refine Or.inr ?_
    simp (disch := omega) only [zi_t, zi_f, bnd_t, zg_in, zx, nI_ltI, nI_leI, nI_eq, nI_add, pk_mul, pk_sub, mup_s, mup_c, mup_j, mrw_c, if_pos, if_neg, zm_1, zm_2, zm_3, zm_4, zm_5, zm_6, zm_7, zm_8, zm_9, zf_0, zf_1, zf_2, zf_3, zf_4, zf_5, zf_6, zf_7, zf_8, zf_9, zf_10, zf_14, zf_15, zf_16, zf_18, zf_19, zf_20, zf_24, zf_30, zf_31, zf_32, zf_33, zf_99, zf_100, zf_160, zf_200, zf_287, zf_288, zf_300, zf_1000, zf_1023, zf_1024, zf_1600, zf_3840, zf_25600, zf_36000, zf_1000000, zf_1000000000, zf_2000000000, zf_11560, za_1, za_2, za_4, za_5, za_6, za_7, za_8, za_9, za_10, za_11, za_12, za_14, za_15, za_22, za_23, za_25, za_26, za_27, za_28, za_29, za_30, za_31, za_32, za_33, za_34, za_35, za_41, za_42, za_43, za_44, za_45, za_46, za_47, za_48, za_49, za_61, za_62, za_63, za_64, za_65, za_70]
    rw [show lo = lb L p by omega]
theorem ins_get {L : ArL} {i j : Nat} {q x : Nat × Nat} (h : i ≤ L.length) (hx : (L.take i ++ q :: L.drop i)[j]? = some x) : (j < i ∧ L[j]? = some x) ∨ (j = i ∧ x = q) ∨ (i < j ∧ L[j - 1]? = some x) := by
  have hl : (L.take i).length = i := by rw [List.length_take]; omega
  rcases Nat.lt_trichotomy j i with hj | hj | hj
  · rw [List.getElem?_append_left (by omega), List.getElem?_take, if_pos hj] at hx
    exact Or.inl ⟨hj, hx⟩
  · rw [List.getElem?_append_right (by omega), hl, hj, Nat.sub_self, List.getElem?_cons_zero] at hx
    exact Or.inr (Or.inl ⟨hj, (Option.some.inj hx).symm⟩)
  · rw [List.getElem?_append_right (by omega), hl] at hx
    obtain ⟨d, hd⟩ : ∃ d, j - i = d + 1 := ⟨j - i - 1, by omega⟩
    rw [hd, List.getElem?_cons_succ, List.getElem?_drop] at hx
    refine Or.inr (Or.inr ⟨hj, ?_⟩)
    rw [show j - 1 = i + d by omega]
    exact hx
theorem cpok_t {i c n : Nat} (h : i ≤ c) (h2 : c < n) (hn : n < 2 ^ 30) : cpok (nI i) (nI (i + 1)) (nI (c - i)) n n = true := by
  unfold cpok
  refine decide_eq_true ⟨nI_pos (by omega), nI_pos (by omega), nI_pos (by omega), ?_, ?_⟩
  · rw [zx (by omega), zx (by omega)]; omega
  · rw [zx (by omega), zx (by omega)]; omega
theorem gd_cp {α : Type} {i c n : Nat} {o : Option α} (h : i ≤ c) (h2 : c < n) (hn : n < 2 ^ 30) : gd (cpok (nI i) (nI (i + 1)) (nI (c - i)) n n) o = o := gd_t (cpok_t h h2 hn)
theorem pz_put_new {N a : Nat} {m : Mem} {L : ArL} {p k : Nat} (hk : knd a = 0) (hA : AR m a L) (hc : L.length < 160) :
    ∃ m', B_X0_put_42 N m a (nI p) (nI k) (nI (lb L p)) = some (nI 1, m') ∧ AR m' a (L.take (lb L p) ++ (p, k) :: L.drop (lb L p)) ∧ Off a (a + 3) m m' := by
  have hle := lb_le L p
  have h1 := (kA12 hk).2.2.1
  have h2 := (kA12 hk).2.2.2
  have hA1 := hA.1
  refine ⟨mup (mup (mup (mrw (mrw m (a + 1) (va_cpy (m (a + 1)) (m (a + 1)) (lb L p) (lb L p + 1) (L.length - lb L p))) (a + 2) (va_cpy (m (a + 2)) (m (a + 2)) (lb L p) (lb L p + 1) (L.length - lb L p))) (a + 1) (lb L p) (nI p)) (a + 2) (lb L p) (nI k)) a 2 (nI (L.length + 1)), ?_, ⟨?_, ?_⟩, ?_⟩
  · unfold B_X0_put_42
    simp (disch := omega) only [zi_t, zi_f, bnd_t, zg_in, zx, nI_ltI, nI_leI, nI_eq, nI_add, pk_mul, pk_sub, mup_s, mup_c, mup_j, mrw_c, if_pos, if_neg, zm_1, zm_2, zm_3, zm_4, zm_5, zm_6, zm_7, zm_8, zm_9, zf_0, zf_1, zf_2, zf_3, zf_4, zf_5, zf_6, zf_7, zf_8, zf_9, zf_10, zf_14, zf_15, zf_16, zf_18, zf_19, zf_20, zf_24, zf_30, zf_31, zf_32, zf_33, zf_99, zf_100, zf_160, zf_200, zf_287, zf_288, zf_300, zf_1000, zf_1023, zf_1024, zf_1600, zf_3840, zf_25600, zf_36000, zf_1000000, zf_1000000000, zf_2000000000, zf_11560, za_1, za_2, za_4, za_5, za_6, za_7, za_8, za_9, za_10, za_11, za_12, za_14, za_15, za_22, za_23, za_25, za_26, za_27, za_28, za_29, za_30, za_31, za_32, za_33, za_34, za_35, za_41, za_42, za_43, za_44, za_45, za_46, za_47, za_48, za_49, za_61, za_62, za_63, za_64, za_65, za_70, h1, h2, hA1, gd_cp, mrw_r]
  · rw [mup_s]
    congr 1
    rw [List.length_append, List.length_cons, List.length_take, List.length_drop]
    omega
  · intro j q hq
    have hj := ins_get hle hq
    have e1 : ∀ (f : Nat → Int32), va_cpy f f (lb L p) (lb L p + 1) (L.length - lb L p) j = if lb L p + 1 ≤ j ∧ j < lb L p + 1 + (L.length - lb L p) then f (lb L p + (j - (lb L p + 1))) else f j := fun f => rfl
    rcases hj with ⟨g1, g2⟩ | ⟨g1, g2⟩ | ⟨g1, g2⟩
    · have := hA.2 j q g2
      constructor
      · simp (disch := omega) only [zi_t, zi_f, bnd_t, zg_in, zx, nI_ltI, nI_leI, nI_eq, nI_add, pk_mul, pk_sub, mup_s, mup_c, mup_j, mrw_c, if_pos, if_neg, zm_1, zm_2, zm_3, zm_4, zm_5, zm_6, zm_7, zm_8, zm_9, zf_0, zf_1, zf_2, zf_3, zf_4, zf_5, zf_6, zf_7, zf_8, zf_9, zf_10, zf_14, zf_15, zf_16, zf_18, zf_19, zf_20, zf_24, zf_30, zf_31, zf_32, zf_33, zf_99, zf_100, zf_160, zf_200, zf_287, zf_288, zf_300, zf_1000, zf_1023, zf_1024, zf_1600, zf_3840, zf_25600, zf_36000, zf_1000000, zf_1000000000, zf_2000000000, zf_11560, za_1, za_2, za_4, za_5, za_6, za_7, za_8, za_9, za_10, za_11, za_12, za_14, za_15, za_22, za_23, za_25, za_26, za_27, za_28, za_29, za_30, za_31, za_32, za_33, za_34, za_35, za_41, za_42, za_43, za_44, za_45, za_46, za_47, za_48, za_49, za_61, za_62, za_63, za_64, za_65, za_70, mrw_ka, e1]
        exact this.1
      · simp (disch := omega) only [zi_t, zi_f, bnd_t, zg_in, zx, nI_ltI, nI_leI, nI_eq, nI_add, pk_mul, pk_sub, mup_s, mup_c, mup_j, mrw_c, if_pos, if_neg, zm_1, zm_2, zm_3, zm_4, zm_5, zm_6, zm_7, zm_8, zm_9, zf_0, zf_1, zf_2, zf_3, zf_4, zf_5, zf_6, zf_7, zf_8, zf_9, zf_10, zf_14, zf_15, zf_16, zf_18, zf_19, zf_20, zf_24, zf_30, zf_31, zf_32, zf_33, zf_99, zf_100, zf_160, zf_200, zf_287, zf_288, zf_300, zf_1000, zf_1023, zf_1024, zf_1600, zf_3840, zf_25600, zf_36000, zf_1000000, zf_1000000000, zf_2000000000, zf_11560, za_1, za_2, za_4, za_5, za_6, za_7, za_8, za_9, za_10, za_11, za_12, za_14, za_15, za_22, za_23, za_25, za_26, za_27, za_28, za_29, za_30, za_31, za_32, za_33, za_34, za_35, za_41, za_42, za_43, za_44, za_45, za_46, za_47, za_48, za_49, za_61, za_62, za_63, za_64, za_65, za_70, mrw_ka, e1]
        exact this.2
    · subst g1 g2
      constructor
      · simp (disch := omega) only [zi_t, zi_f, bnd_t, zg_in, zx, nI_ltI, nI_leI, nI_eq, nI_add, pk_mul, pk_sub, mup_s, mup_c, mup_j, mrw_c, if_pos, if_neg, zm_1, zm_2, zm_3, zm_4, zm_5, zm_6, zm_7, zm_8, zm_9, zf_0, zf_1, zf_2, zf_3, zf_4, zf_5, zf_6, zf_7, zf_8, zf_9, zf_10, zf_14, zf_15, zf_16, zf_18, zf_19, zf_20, zf_24, zf_30, zf_31, zf_32, zf_33, zf_99, zf_100, zf_160, zf_200, zf_287, zf_288, zf_300, zf_1000, zf_1023, zf_1024, zf_1600, zf_3840, zf_25600, zf_36000, zf_1000000, zf_1000000000, zf_2000000000, zf_11560, za_1, za_2, za_4, za_5, za_6, za_7, za_8, za_9, za_10, za_11, za_12, za_14, za_15, za_22, za_23, za_25, za_26, za_27, za_28, za_29, za_30, za_31, za_32, za_33, za_34, za_35, za_41, za_42, za_43, za_44, za_45, za_46, za_47, za_48, za_49, za_61, za_62, za_63, za_64, za_65, za_70]
      · simp (disch := omega) only [zi_t, zi_f, bnd_t, zg_in, zx, nI_ltI, nI_leI, nI_eq, nI_add, pk_mul, pk_sub, mup_s, mup_c, mup_j, mrw_c, if_pos, if_neg, zm_1, zm_2, zm_3, zm_4, zm_5, zm_6, zm_7, zm_8, zm_9, zf_0, zf_1, zf_2, zf_3, zf_4, zf_5, zf_6, zf_7, zf_8, zf_9, zf_10, zf_14, zf_15, zf_16, zf_18, zf_19, zf_20, zf_24, zf_30, zf_31, zf_32, zf_33, zf_99, zf_100, zf_160, zf_200, zf_287, zf_288, zf_300, zf_1000, zf_1023, zf_1024, zf_1600, zf_3840, zf_25600, zf_36000, zf_1000000, zf_1000000000, zf_2000000000, zf_11560, za_1, za_2, za_4, za_5, za_6, za_7, za_8, za_9, za_10, za_11, za_12, za_14, za_15, za_22, za_23, za_25, za_26, za_27, za_28, za_29, za_30, za_31, za_32, za_33, za_34, za_35, za_41, za_42, za_43, za_44, za_45, za_46, za_47, za_48, za_49, za_61, za_62, za_63, za_64, za_65, za_70]
    · have hlt := (List.getElem?_eq_some_iff.mp g2).1
      have := hA.2 _ q g2
      have e2 : lb L p + (j - (lb L p + 1)) = j - 1 := by omega
      constructor
      · simp (disch := omega) only [zi_t, zi_f, bnd_t, zg_in, zx, nI_ltI, nI_leI, nI_eq, nI_add, pk_mul, pk_sub, mup_s, mup_c, mup_j, mrw_c, if_pos, if_neg, zm_1, zm_2, zm_3, zm_4, zm_5, zm_6, zm_7, zm_8, zm_9, zf_0, zf_1, zf_2, zf_3, zf_4, zf_5, zf_6, zf_7, zf_8, zf_9, zf_10, zf_14, zf_15, zf_16, zf_18, zf_19, zf_20, zf_24, zf_30, zf_31, zf_32, zf_33, zf_99, zf_100, zf_160, zf_200, zf_287, zf_288, zf_300, zf_1000, zf_1023, zf_1024, zf_1600, zf_3840, zf_25600, zf_36000, zf_1000000, zf_1000000000, zf_2000000000, zf_11560, za_1, za_2, za_4, za_5, za_6, za_7, za_8, za_9, za_10, za_11, za_12, za_14, za_15, za_22, za_23, za_25, za_26, za_27, za_28, za_29, za_30, za_31, za_32, za_33, za_34, za_35, za_41, za_42, za_43, za_44, za_45, za_46, za_47, za_48, za_49, za_61, za_62, za_63, za_64, za_65, za_70, mrw_ka, e1, e2]
        exact this.1
      · simp (disch := omega) only [zi_t, zi_f, bnd_t, zg_in, zx, nI_ltI, nI_leI, nI_eq, nI_add, pk_mul, pk_sub, mup_s, mup_c, mup_j, mrw_c, if_pos, if_neg, zm_1, zm_2, zm_3, zm_4, zm_5, zm_6, zm_7, zm_8, zm_9, zf_0, zf_1, zf_2, zf_3, zf_4, zf_5, zf_6, zf_7, zf_8, zf_9, zf_10, zf_14, zf_15, zf_16, zf_18, zf_19, zf_20, zf_24, zf_30, zf_31, zf_32, zf_33, zf_99, zf_100, zf_160, zf_200, zf_287, zf_288, zf_300, zf_1000, zf_1023, zf_1024, zf_1600, zf_3840, zf_25600, zf_36000, zf_1000000, zf_1000000000, zf_2000000000, zf_11560, za_1, za_2, za_4, za_5, za_6, za_7, za_8, za_9, za_10, za_11, za_12, za_14, za_15, za_22, za_23, za_25, za_26, za_27, za_28, za_29, za_30, za_31, za_32, za_33, za_34, za_35, za_41, za_42, za_43, za_44, za_45, za_46, za_47, za_48, za_49, za_61, za_62, za_63, za_64, za_65, za_70, mrw_ka, e1, e2]
        exact this.2
  · exact ((((Off.rf.rw (by omega) (by omega)).rw (by omega) (by omega)).up (by omega) (by omega)).up (by omega) (by omega)).up (by omega) (by omega)
theorem pz_put {N a : Nat} {m : Mem} {L : ArL} {p k : Nat} (hN : 200 ≤ N) (hk : knd a = 0) (hA : AR m a L) (hS : Srt L) (hsm : sm L) (hc : L.length ≤ 160) (hp : p < 2 ^ 30) (hk30 : k < 2 ^ 30) :
    ((insR L p k).length ≤ 160 ∧ ∃ m', F_X0_put N m a (nI p) (nI k) = some (nI 1, m') ∧ AR m' a (insR L p k) ∧ Off a (a + 3) m m') ∨ (160 < (insR L p k).length ∧ F_X0_put N m a (nI p) (nI k) = some (nI 0, m)) := by
  have hle := lb_le L p
  have h1 := (kA12 hk).2.2.1
  have h2 := (kA12 hk).2.2.2
  have hA1 := hA.1
  have hlen := insR_len L p k
  unfold F_X0_put
  rw [cal_t (pz_placeOf hN hk hA hS hsm hc hp)]
  have hnew : (∀ k0, ¬ (p, k0) ∈ L) → ((insR L p k).length ≤ 160 ∧ ∃ m', B_X0_put_42 N m a (nI p) (nI k) (nI (lb L p)) = some (nI 1, m') ∧ AR m' a (insR L p k) ∧ Off a (a + 3) m m') ∨ (160 < (insR L p k).length ∧ B_X0_put_42 N m a (nI p) (nI k) (nI (lb L p)) = some (nI 0, m)) := by
    intro hn
    rw [insR_new L p k hS hn]
    have hl : (List.take (lb L p) L ++ (p, k) :: List.drop (lb L p) L).length = L.length + 1 := by
      rw [List.length_append, List.length_cons, List.length_take, List.length_drop]; omega
    rcases Nat.lt_or_ge L.length 160 with h | h
    · exact Or.inl ⟨by omega, pz_put_new hk hA h⟩
    · refine Or.inr ⟨by omega, ?_⟩
      unfold B_X0_put_42
      simp (disch := omega) only [zi_t, zi_f, bnd_t, zg_in, zx, nI_ltI, nI_leI, nI_eq, nI_add, pk_mul, pk_sub, mup_s, mup_c, mup_j, mrw_c, if_pos, if_neg, zm_1, zm_2, zm_3, zm_4, zm_5, zm_6, zm_7, zm_8, zm_9, zf_0, zf_1, zf_2, zf_3, zf_4, zf_5, zf_6, zf_7, zf_8, zf_9, zf_10, zf_14, zf_15, zf_16, zf_18, zf_19, zf_20, zf_24, zf_30, zf_31, zf_32, zf_33, zf_99, zf_100, zf_160, zf_200, zf_287, zf_288, zf_300, zf_1000, zf_1023, zf_1024, zf_1600, zf_3840, zf_25600, zf_36000, zf_1000000, zf_1000000000, zf_2000000000, zf_11560, za_1, za_2, za_4, za_5, za_6, za_7, za_8, za_9, za_10, za_11, za_12, za_14, za_15, za_22, za_23, za_25, za_26, za_27, za_28, za_29, za_30, za_31, za_32, za_33, za_34, za_35, za_41, za_42, za_43, za_44, za_45, za_46, za_47, za_48, za_49, za_61, za_62, za_63, za_64, za_65, za_70, hA1]
  by_cases hlt : lb L p < L.length
  · obtain ⟨q, hq⟩ : ∃ q, L[lb L p]? = some q := ⟨_, List.getElem?_eq_getElem hlt⟩
    have hmem := List.mem_of_getElem? hq
    have hq1 := (hA.2 _ q hq).1
    have hq2 := (hA.2 _ q hq).2
    have hs1 := (hsm q hmem).1
    have hs2 := (hsm q hmem).2
    by_cases he : q.1 = p
    · refine Or.inl ⟨?_, mup m (a + 2) (lb L p) (nI (min k q.2)), ?_, ⟨?_, ?_⟩, Off.rf.up (by omega) (by omega)⟩
      · rw [insR_old L p k q.2 hS (by rw [hq, ← he]), List.length_set]; exact hc
      · have hmin : (if k < q.2 then nI k else nI q.2) = nI (min k q.2) := by
          by_cases hkk : k < q.2
          · rw [if_pos hkk, Nat.min_eq_left (by omega)]
          · rw [if_neg hkk, Nat.min_eq_right (by omega)]
        simp (disch := omega) only [zi_t, zi_f, bnd_t, zg_in, zx, nI_ltI, nI_leI, nI_eq, nI_add, pk_mul, pk_sub, mup_s, mup_c, mup_j, mrw_c, if_pos, if_neg, zm_1, zm_2, zm_3, zm_4, zm_5, zm_6, zm_7, zm_8, zm_9, zf_0, zf_1, zf_2, zf_3, zf_4, zf_5, zf_6, zf_7, zf_8, zf_9, zf_10, zf_14, zf_15, zf_16, zf_18, zf_19, zf_20, zf_24, zf_30, zf_31, zf_32, zf_33, zf_99, zf_100, zf_160, zf_200, zf_287, zf_288, zf_300, zf_1000, zf_1023, zf_1024, zf_1600, zf_3840, zf_25600, zf_36000, zf_1000000, zf_1000000000, zf_2000000000, zf_11560, za_1, za_2, za_4, za_5, za_6, za_7, za_8, za_9, za_10, za_11, za_12, za_14, za_15, za_22, za_23, za_25, za_26, za_27, za_28, za_29, za_30, za_31, za_32, za_33, za_34, za_35, za_41, za_42, za_43, za_44, za_45, za_46, za_47, za_48, za_49, za_61, za_62, za_63, za_64, za_65, za_70, hA1, h1, h2, hq1, hq2, hmin]
      · rw [mup_c (by omega), insR_old L p k q.2 hS (by rw [hq, ← he]), List.length_set]; exact hA1
      · intro j x hx
        rw [insR_old L p k q.2 hS (by rw [hq, ← he]), List.getElem?_set] at hx
        by_cases hj : lb L p = j
        · rw [if_pos hj, if_pos (by omega)] at hx
          cases hx
          subst hj
          refine ⟨by rw [mup_c (by omega), hq1, he], ?_⟩
          rw [mup_s]
        · rw [if_neg hj] at hx
          rw [mup_c (by omega), mup_j (by omega)]
          exact hA.2 j x hx
    · have := hnew (fun k0 hk0 => by
        have := lb_at hS hk0
        rw [hq] at this
        exact he (by rw [Option.some.inj this]))
      simp (disch := omega) only [zi_t, zi_f, bnd_t, zg_in, zx, nI_ltI, nI_leI, nI_eq, nI_add, pk_mul, pk_sub, mup_s, mup_c, mup_j, mrw_c, if_pos, if_neg, zm_1, zm_2, zm_3, zm_4, zm_5, zm_6, zm_7, zm_8, zm_9, zf_0, zf_1, zf_2, zf_3, zf_4, zf_5, zf_6, zf_7, zf_8, zf_9, zf_10, zf_14, zf_15, zf_16, zf_18, zf_19, zf_20, zf_24, zf_30, zf_31, zf_32, zf_33, zf_99, zf_100, zf_160, zf_200, zf_287, zf_288, zf_300, zf_1000, zf_1023, zf_1024, zf_1600, zf_3840, zf_25600, zf_36000, zf_1000000, zf_1000000000, zf_2000000000, zf_11560, za_1, za_2, za_4, za_5, za_6, za_7, za_8, za_9, za_10, za_11, za_12, za_14, za_15, za_22, za_23, za_25, za_26, za_27, za_28, za_29, za_30, za_31, za_32, za_33, za_34, za_35, za_41, za_42, za_43, za_44, za_45, za_46, za_47, za_48, za_49, za_61, za_62, za_63, za_64, za_65, za_70, hA1, h1, hq1]
      exact this
  · have := hnew (fun k0 hk0 => by
      have := lb_at hS hk0
      rw [List.getElem?_eq_none (by omega)] at this
      cases this)
    simp (disch := omega) only [zi_t, zi_f, bnd_t, zg_in, zx, nI_ltI, nI_leI, nI_eq, nI_add, pk_mul, pk_sub, mup_s, mup_c, mup_j, mrw_c, if_pos, if_neg, zm_1, zm_2, zm_3, zm_4, zm_5, zm_6, zm_7, zm_8, zm_9, zf_0, zf_1, zf_2, zf_3, zf_4, zf_5, zf_6, zf_7, zf_8, zf_9, zf_10, zf_14, zf_15, zf_16, zf_18, zf_19, zf_20, zf_24, zf_30, zf_31, zf_32, zf_33, zf_99, zf_100, zf_160, zf_200, zf_287, zf_288, zf_300, zf_1000, zf_1023, zf_1024, zf_1600, zf_3840, zf_25600, zf_36000, zf_1000000, zf_1000000000, zf_2000000000, zf_11560, za_1, za_2, za_4, za_5, za_6, za_7, za_8, za_9, za_10, za_11, za_12, za_14, za_15, za_22, za_23, za_25, za_26, za_27, za_28, za_29, za_30, za_31, za_32, za_33, za_34, za_35, za_41, za_42, za_43, za_44, za_45, za_46, za_47, za_48, za_49, za_61, za_62, za_63, za_64, za_65, za_70, hA1]
    exact this
theorem insR_sm {L : ArL} {p k : Nat} (h : sm L) (hp : p < 2 ^ 30) (hk : k < 2 ^ 30) : ∀ q, q ∈ insR L p k → q.1 < 2 ^ 30 := by
  intro q hq
  rcases insR_key L p k q hq with e | e
  · omega
  · exact (h q e).1
theorem insR_cost : ∀ (L : ArL) (p k B : Nat), (∀ q, q ∈ L → q.2 ≤ B) → k ≤ B → ∀ q, q ∈ insR L p k → q.2 ≤ B
  | [], p, k, B, _, hk, q, hq => by rw [insR, List.mem_singleton] at hq; rw [hq]; exact hk
  | x :: L, p, k, B, h, hk, q, hq => by
    have hx := h x (List.mem_cons_self ..)
    rw [insR] at hq
    split at hq
    · rcases List.mem_cons.mp hq with e | e
      · rw [e]; exact hk
      · exact h q e
    · split at hq
      · rcases List.mem_cons.mp hq with e | e
        · rw [e]; show min k x.2 ≤ B; omega
        · exact h q (List.mem_cons_of_mem _ e)
      · rcases List.mem_cons.mp hq with e | e
        · rw [e]; exact hx
        · exact insR_cost L p k B (fun q hq => h q (List.mem_cons_of_mem _ hq)) hk q e
