
/-! changes and mended -/
theorem wy_2 {n : Nat} {f : Nat → Bool} {L : ArL} {w : List Nat} {t : Nat} (ht : t < n) (hf : f t = true) : ∀ (P : ArL) (p s : Nat), p ≤ w.length → Pth L s P t → wdg upr P = w.drop p → Wy (eG 2 L w) (En n f w) (32 * p + s) 0
  | [], p, s, hp, h, hw => by
    have h : s = t := h
    subst h
    have hl : (w.drop p).length = 0 := by rw [← hw]; rfl
    rw [List.length_drop] at hl
    have e : p = w.length := by omega
    subst e
    exact wy_en ⟨s, ht, hf, rfl⟩
  | q :: P, p, s, hp, h, hw => by
    obtain ⟨h1, h2, h3⟩ := h
    rw [wdg_c] at hw
    by_cases c : upr q.1 = 8
    · rw [if_pos c] at hw
      have ih := wy_2 ht hf P p (too q.1) hp h3 hw
      have hE : eG 2 L w (32 * p + s) 0 (32 * p + too q.1) := by
        refine ⟨_, p, hp, Or.inl ⟨q, h1, ?_, by rw [h2], rfl, rfl⟩⟩
        show some (if rdW 2 q = 8 then 0 else 1) = some 0
        rw [show rdW 2 q = upr q.1 from rfl, if_pos c]
      exact wy_st hE ih
    · rw [if_neg c] at hw
      have hg : w[p]? = some (upr q.1) := by
        have := congrArg (fun l => l[0]?) hw
        simp only [List.getElem?_drop, List.getElem?_cons_zero, Nat.add_zero] at this
        exact this.symm
      have hl := (List.getElem?_eq_some_iff.mp hg).1
      have hw2 : wdg upr P = w.drop (p + 1) := by
        have := congrArg List.tail hw
        rw [List.tail_cons, List.tail_drop] at this
        exact this
      have ih := wy_2 ht hf P (p + 1) (too q.1) (by omega) h3 hw2
      have hE : eG 2 L w (32 * p + s) 0 (32 * (p + 1) + too q.1) := by
        refine ⟨_, p, hp, Or.inr (Or.inl ⟨q, h1, ?_, by rw [h2], rfl, rfl⟩)⟩
        unfold cRd
        rw [hg]
        show (if rdW 2 q = 8 then none else if (2 : Nat) = 2 then some (if rdW 2 q = upr q.1 then 0 else 1) else _) = some 0
        rw [show rdW 2 q = upr q.1 from rfl, if_neg c, if_pos rfl, if_pos rfl]
      exact wy_st hE ih
theorem as_changes {Ms : List Ma} {w : List Nat} {ls : Ls} {i n : Nat} {f : Nat → Bool} {L : ArL} (hV : InV Ms w ls) (gA : Ms[i]? = some (n, f, L)) :
    ∃ ck md : Int32, ((ck = nM ∧ md = nM) ∨ ∃ v v', v < 2 ^ 30 ∧ v' ≤ 8 ∧ ck = nI v ∧ md = nI v') ∧ (∀ ρ, AnU false n f L w ρ → ck = nI 0) ∧ ∀ N m, 40000 < N → InC m Ms w ls →
      CQ (F_X7_changes N m (nI i)) m (.inl ck) Ms w ls ∧ CQ (F_X7_mended N m (nI i) (nI 0)) m (.inl md) Ms w ls := by
  have v1 := hV.1
  have hi := (List.getElem?_eq_some_iff.mp gA).1
  obtain ⟨a1, a2, a3, a4, a5, a6, a7⟩ := hV.2.1 _ (List.mem_of_getElem? gA)
  have v3 := hV.2.2.1
  have v4 := hV.2.2.2.1
  have hb := eg_bd (way := 2) (w := w) v3 a2 a5
  obtain ⟨δ, hδ⟩ := isd_ex (En := En n f w) hb
  have hbeg : ∀ N m, 40000 < N → InC m Ms w ls → ∃ m1, F_X4_begin N m (200 + 4 * i) (nI w.length) (nI 2) = some m1 ∧ SL m1 (200 + 4 * i) 2 n f L w δ ∧ Off 40 50 m m1 := by
    intro N m hN hC
    obtain ⟨m1, g1, g2, g3, g4⟩ := cl_begin (N := N) (a := 200 + 4 * i) (way := 2) hN (by omega) (by omega) (kn3 (by omega)) (hC.2.1 i _ gA) a5 a3 (by omega) v3 v4 hC.2.2.2.1 a2 hδ
    exact ⟨m1, g1, g2, fun k hk => g4 k (by omega)⟩
  have hz : ∀ ρ, AnU false n f L w ρ → δ 0 = 0 := by
    rintro ρ ⟨P, t, h1, h2, h3, h4, _⟩
    have hw := wy_2 h2 h3 P 0 0 (Nat.zero_le _) h1 h4
    rcases hδ 0 with ⟨_, k2⟩ | ⟨_, k2⟩
    · have := k2.2 0 hw; omega
    · exact absurd hw (k2 0)
  by_cases h0 : δ 0 < 1000000000
  · obtain ⟨vi, an, hv, hvi, han⟩ := mend_ex ⟨a1, a2, a3, a4, a5, a6, a7⟩ v3 hδ h0
    have hv0 : vi [] = true := (hvi []).mpr ⟨0, rfl⟩
    obtain ⟨Λ, l1, l2, l3, l4⟩ := list_ex hv hv0
    obtain ⟨F, res, hF, hw⟩ := walk_ex (S := 1) hv hv0 (by omega)
    obtain ⟨w1, w2, w3⟩ := walk_inv hv.2.2 F [] 0 _ res hw hv0 (by split <;> omega)
    have hlen := hv.1 _ w1
    have hr1 : 1 ≤ res.1 := walk_one hv F F [] res (Nat.le_refl _) hw hv0
    obtain ⟨c1, c2⟩ := l1 1 F res (Nat.le_refl _) hw
    have hrm : res.2 ∈ Λ := by
      cases e : Λ[1 - 1]? with
      | none =>
        have := List.getElem?_eq_none_iff.mp e
        have := c1 (by omega)
        omega
      | some τ =>
        rw [c2 τ e]
        exact List.mem_of_getElem? e
    have hl8 : ltP res.2 0 ≤ 8 := by
      unfold ltP
      split
      · rename_i hp
        rw [List.getD_eq_getElem?_getD, List.getElem?_eq_getElem (by omega)]
        exact Nat.le_of_lt ((l3 _ hrm).2.2 _ (List.getElem_mem _))
      · exact Nat.le_refl _
    refine ⟨nI (δ 0), nI (ltP res.2 0), Or.inr ⟨δ 0, ltP res.2 0, by have := hδ.le hb 0; omega, hl8, rfl, rfl⟩, fun ρ h => by rw [hz ρ h], fun N m hN hC => ⟨?_, ?_⟩⟩
    · obtain ⟨m1, g1, g2, g4⟩ := hbeg N m hN hC
      refine cq_of hC g4 ?_
      have e01 := hC.2.2.1
      unfold F_X7_changes
      rw [calx_t (need_ok hC v1 hi)]
      simp (disch := omega) only [zi_t, zi_f, bnd_t, zg_in, zx, nI_ltI, nI_leI, nI_eq, nI_add, pk_mul, pk_sub, mup_s, mup_c, mup_j, mrw_c, if_pos, if_neg, zm_1, zm_2, zm_3, zm_4, zm_5, zm_6, zm_7, zm_8, zm_9, zf_0, zf_1, zf_2, zf_3, zf_4, zf_5, zf_6, zf_7, zf_8, zf_9, zf_10, zf_14, zf_15, zf_16, zf_18, zf_19, zf_20, zf_24, zf_30, zf_31, zf_32, zf_33, zf_99, zf_100, zf_160, zf_200, zf_287, zf_288, zf_300, zf_1000, zf_1023, zf_1024, zf_1600, zf_3840, zf_25600, zf_36000, zf_1000000, zf_1000000000, zf_2000000000, zf_11560, za_1, za_2, za_4, za_5, za_6, za_7, za_8, za_9, za_10, za_11, za_12, za_14, za_15, za_22, za_23, za_25, za_26, za_27, za_28, za_29, za_30, za_31, za_32, za_33, za_34, za_35, za_41, za_42, za_43, za_44, za_45, za_46, za_47, za_48, za_49, za_61, za_62, za_63, za_64, za_65, za_70, e01]
      rw [calv_t g1, cal_t (cl_least g2 a1), if_pos h0]
    · obtain ⟨m1, g1, g2, g4⟩ := hbeg N m hN hC
      obtain ⟨m2, k1, k2, k3⟩ := cl_find (N := N) (S := 1) (ch := true) (by omega) (by omega) (by omega) (kn3 (by omega)) g2 a5 a3 a1 a2 (by omega) v3 v4 hv hvi han (by omega) (by omega) h0 hw
      refine cq_of hC (m1 := m2) (fun c hc => by rw [k2 c hc, g4 c (by omega)]) ?_
      have k1 : F_X4_find N m1 (nI 1) (nI 1) = some (nI res.1, m2) := k1
      obtain ⟨q1, q2⟩ := k3 hr1
      have e01 := hC.2.2.1
      unfold F_X7_mended B_X7_mended_55
      rw [calx_t (need_ok hC v1 hi), calx_t (plc_ok (by omega))]
      simp (disch := omega) only [zi_t, zi_f, bnd_t, zg_in, zx, nI_ltI, nI_leI, nI_eq, nI_add, pk_mul, pk_sub, mup_s, mup_c, mup_j, mrw_c, if_pos, if_neg, zm_1, zm_2, zm_3, zm_4, zm_5, zm_6, zm_7, zm_8, zm_9, zf_0, zf_1, zf_2, zf_3, zf_4, zf_5, zf_6, zf_7, zf_8, zf_9, zf_10, zf_14, zf_15, zf_16, zf_18, zf_19, zf_20, zf_24, zf_30, zf_31, zf_32, zf_33, zf_99, zf_100, zf_160, zf_200, zf_287, zf_288, zf_300, zf_1000, zf_1023, zf_1024, zf_1600, zf_3840, zf_25600, zf_36000, zf_1000000, zf_1000000000, zf_2000000000, zf_11560, za_1, za_2, za_4, za_5, za_6, za_7, za_8, za_9, za_10, za_11, za_12, za_14, za_15, za_22, za_23, za_25, za_26, za_27, za_28, za_29, za_30, za_31, za_32, za_33, za_34, za_35, za_41, za_42, za_43, za_44, za_45, za_46, za_47, za_48, za_49, za_61, za_62, za_63, za_64, za_65, za_70, e01]
      rw [calv_t g1]
      try simp (disch := omega) only [zi_t, zi_f, bnd_t, zg_in, zx, nI_ltI, nI_leI, nI_eq, nI_add, pk_mul, pk_sub, mup_s, mup_c, mup_j, mrw_c, if_pos, if_neg, zm_1, zm_2, zm_3, zm_4, zm_5, zm_6, zm_7, zm_8, zm_9, zf_0, zf_1, zf_2, zf_3, zf_4, zf_5, zf_6, zf_7, zf_8, zf_9, zf_10, zf_14, zf_15, zf_16, zf_18, zf_19, zf_20, zf_24, zf_30, zf_31, zf_32, zf_33, zf_99, zf_100, zf_160, zf_200, zf_287, zf_288, zf_300, zf_1000, zf_1023, zf_1024, zf_1600, zf_3840, zf_25600, zf_36000, zf_1000000, zf_1000000000, zf_2000000000, zf_11560, za_1, za_2, za_4, za_5, za_6, za_7, za_8, za_9, za_10, za_11, za_12, za_14, za_15, za_22, za_23, za_25, za_26, za_27, za_28, za_29, za_30, za_31, za_32, za_33, za_34, za_35, za_41, za_42, za_43, za_44, za_45, za_46, za_47, za_48, za_49, za_61, za_62, za_63, za_64, za_65, za_70]
      rw [cal_t k1]
      simp (disch := omega) only [zi_t, zi_f, bnd_t, zg_in, zx, nI_ltI, nI_leI, nI_eq, nI_add, pk_mul, pk_sub, mup_s, mup_c, mup_j, mrw_c, if_pos, if_neg, zm_1, zm_2, zm_3, zm_4, zm_5, zm_6, zm_7, zm_8, zm_9, zf_0, zf_1, zf_2, zf_3, zf_4, zf_5, zf_6, zf_7, zf_8, zf_9, zf_10, zf_14, zf_15, zf_16, zf_18, zf_19, zf_20, zf_24, zf_30, zf_31, zf_32, zf_33, zf_99, zf_100, zf_160, zf_200, zf_287, zf_288, zf_300, zf_1000, zf_1023, zf_1024, zf_1600, zf_3840, zf_25600, zf_36000, zf_1000000, zf_1000000000, zf_2000000000, zf_11560, za_1, za_2, za_4, za_5, za_6, za_7, za_8, za_9, za_10, za_11, za_12, za_14, za_15, za_22, za_23, za_25, za_26, za_27, za_28, za_29, za_30, za_31, za_32, za_33, za_34, za_35, za_41, za_42, za_43, za_44, za_45, za_46, za_47, za_48, za_49, za_61, za_62, za_63, za_64, za_65, za_70]
      rw [cal_t (cl_foundLetter q2 q1 hlen (by omega))]
  · refine ⟨nM, nM, Or.inl ⟨rfl, rfl⟩, fun ρ h => by have := hz ρ h; omega, fun N m hN hC => ⟨?_, ?_⟩⟩
    · obtain ⟨m1, g1, g2, g4⟩ := hbeg N m hN hC
      refine cq_of hC g4 ?_
      have e01 := hC.2.2.1
      unfold F_X7_changes
      rw [calx_t (need_ok hC v1 hi)]
      simp (disch := omega) only [zi_t, zi_f, bnd_t, zg_in, zx, nI_ltI, nI_leI, nI_eq, nI_add, pk_mul, pk_sub, mup_s, mup_c, mup_j, mrw_c, if_pos, if_neg, zm_1, zm_2, zm_3, zm_4, zm_5, zm_6, zm_7, zm_8, zm_9, zf_0, zf_1, zf_2, zf_3, zf_4, zf_5, zf_6, zf_7, zf_8, zf_9, zf_10, zf_14, zf_15, zf_16, zf_18, zf_19, zf_20, zf_24, zf_30, zf_31, zf_32, zf_33, zf_99, zf_100, zf_160, zf_200, zf_287, zf_288, zf_300, zf_1000, zf_1023, zf_1024, zf_1600, zf_3840, zf_25600, zf_36000, zf_1000000, zf_1000000000, zf_2000000000, zf_11560, za_1, za_2, za_4, za_5, za_6, za_7, za_8, za_9, za_10, za_11, za_12, za_14, za_15, za_22, za_23, za_25, za_26, za_27, za_28, za_29, za_30, za_31, za_32, za_33, za_34, za_35, za_41, za_42, za_43, za_44, za_45, za_46, za_47, za_48, za_49, za_61, za_62, za_63, za_64, za_65, za_70, e01]
      rw [calv_t g1, cal_t (cl_least g2 a1), if_neg h0]
    · obtain ⟨m1, g1, g2, g4⟩ := hbeg N m hN hC
      obtain ⟨m2, k1, k2⟩ := cl_find0 (N := N) (S := 1) (ch := true) g2 a1 h0
      refine cq_of hC (m1 := m2) (fun c hc => by rw [k2 c hc, g4 c (by omega)]) ?_
      have k1 : F_X4_find N m1 (nI 1) (nI 1) = some (nI 0, m2) := k1
      have e01 := hC.2.2.1
      unfold F_X7_mended B_X7_mended_55
      rw [calx_t (need_ok hC v1 hi), calx_t (plc_ok (by omega))]
      simp (disch := omega) only [zi_t, zi_f, bnd_t, zg_in, zx, nI_ltI, nI_leI, nI_eq, nI_add, pk_mul, pk_sub, mup_s, mup_c, mup_j, mrw_c, if_pos, if_neg, zm_1, zm_2, zm_3, zm_4, zm_5, zm_6, zm_7, zm_8, zm_9, zf_0, zf_1, zf_2, zf_3, zf_4, zf_5, zf_6, zf_7, zf_8, zf_9, zf_10, zf_14, zf_15, zf_16, zf_18, zf_19, zf_20, zf_24, zf_30, zf_31, zf_32, zf_33, zf_99, zf_100, zf_160, zf_200, zf_287, zf_288, zf_300, zf_1000, zf_1023, zf_1024, zf_1600, zf_3840, zf_25600, zf_36000, zf_1000000, zf_1000000000, zf_2000000000, zf_11560, za_1, za_2, za_4, za_5, za_6, za_7, za_8, za_9, za_10, za_11, za_12, za_14, za_15, za_22, za_23, za_25, za_26, za_27, za_28, za_29, za_30, za_31, za_32, za_33, za_34, za_35, za_41, za_42, za_43, za_44, za_45, za_46, za_47, za_48, za_49, za_61, za_62, za_63, za_64, za_65, za_70, e01]
      rw [calv_t g1]
      try simp (disch := omega) only [zi_t, zi_f, bnd_t, zg_in, zx, nI_ltI, nI_leI, nI_eq, nI_add, pk_mul, pk_sub, mup_s, mup_c, mup_j, mrw_c, if_pos, if_neg, zm_1, zm_2, zm_3, zm_4, zm_5, zm_6, zm_7, zm_8, zm_9, zf_0, zf_1, zf_2, zf_3, zf_4, zf_5, zf_6, zf_7, zf_8, zf_9, zf_10, zf_14, zf_15, zf_16, zf_18, zf_19, zf_20, zf_24, zf_30, zf_31, zf_32, zf_33, zf_99, zf_100, zf_160, zf_200, zf_287, zf_288, zf_300, zf_1000, zf_1023, zf_1024, zf_1600, zf_3840, zf_25600, zf_36000, zf_1000000, zf_1000000000, zf_2000000000, zf_11560, za_1, za_2, za_4, za_5, za_6, za_7, za_8, za_9, za_10, za_11, za_12, za_14, za_15, za_22, za_23, za_25, za_26, za_27, za_28, za_29, za_30, za_31, za_32, za_33, za_34, za_35, za_41, za_42, za_43, za_44, za_45, za_46, za_47, za_48, za_49, za_61, za_62, za_63, za_64, za_65, za_70]
      rw [cal_t k1]
      simp (disch := omega) only [zi_t, zi_f, bnd_t, zg_in, zx, nI_ltI, nI_leI, nI_eq, nI_add, pk_mul, pk_sub, mup_s, mup_c, mup_j, mrw_c, if_pos, if_neg, zm_1, zm_2, zm_3, zm_4, zm_5, zm_6, zm_7, zm_8, zm_9, zf_0, zf_1, zf_2, zf_3, zf_4, zf_5, zf_6, zf_7, zf_8, zf_9, zf_10, zf_14, zf_15, zf_16, zf_18, zf_19, zf_20, zf_24, zf_30, zf_31, zf_32, zf_33, zf_99, zf_100, zf_160, zf_200, zf_287, zf_288, zf_300, zf_1000, zf_1023, zf_1024, zf_1600, zf_3840, zf_25600, zf_36000, zf_1000000, zf_1000000000, zf_2000000000, zf_11560, za_1, za_2, za_4, za_5, za_6, za_7, za_8, za_9, za_10, za_11, za_12, za_14, za_15, za_22, za_23, za_25, za_26, za_27, za_28, za_29, za_30, za_31, za_32, za_33, za_34, za_35, za_41, za_42, za_43, za_44, za_45, za_46, za_47, za_48, za_49, za_61, za_62, za_63, za_64, za_65, za_70]
