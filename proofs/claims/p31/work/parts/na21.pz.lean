theorem cl_ruled {N f t p : Nat} {l r : Option Nat} {w : List Nat} {m : Mem} (hN : 40000 < N) (h1 : m 0 1 = nI w.length) (h2 : ∀ j x, w[j]? = some x → m 1 j = nI x) (hw : w.length ≤ 8) (hl8 : ∀ x, x ∈ w → x < 8) (hf : f < 8) (ht : t < 9) (hl : anOK l) (hr : anOK r) (hp : p < 2 ^ 31) :
    L_X7_ruled_19 N N m (nI f) (nI t) (an l) (an r) (nI p) (nI 0) (nI 0) = some (.inl (nI (rdA (rdG w f t l r) p w.length 0)), m) := by
  refine loopF (σ := Unit) (fun F _ k => L_X7_ruled_19 N F m (nI f) (nI t) (an l) (an r) (nI p) (nI (cnt (fun a => decide (rdG w f t l r a ≠ 8)) k)) (nI k)) w.length (fun k _ => rdA (rdG w f t l r) p (w.length - k) k = rdA (rdG w f t l r) p w.length 0) (fun o => o = some (.inl (nI (rdA (rdG w f t l r) p w.length 0)), m)) ?_ ?_ N 0 () (Nat.zero_le _) rfl (by omega)
  · rintro F k _ hk hI
    have e0 := h2 k _ (wd_at hk)
    have b0 := wd_lt hl8 k
    obtain ⟨c, hc⟩ : ∃ c, c = cnt (fun a => decide (rdG w f t l r a ≠ 8)) k := ⟨_, rfl⟩
    have hcle : c ≤ k := by rw [hc]; exact cnt_le _ _
    have hrw := cl_rewr (N := N) h1 h2 hw hl8 hf hl hr hk
    obtain ⟨d, hd⟩ : ∃ d, w.length - k = d + 1 := ⟨w.length - k - 1, by omega⟩
    have hd2 : w.length - (k + 1) = d := by omega
    have hrd : rdA (rdG w f t l r) p (d + 1) k = if rdG w f t l r k ≠ 8 ∧ c = p then rdG w f t l r k else rdA (rdG w f t l r) p d (k + 1) := by rw [hc]; rfl
    have hcs : cnt (fun a => decide (rdG w f t l r a ≠ 8)) (k + 1) = c + if decide (rdG w f t l r k ≠ 8) = true then 1 else 0 := by rw [hc]; rfl
    rw [hd, hrd] at hI
    have hB : ∀ g : Nat, g < 9 → g = rdG w f t l r k → (∃ s', rdA (rdG w f t l r) p (w.length - (k + 1)) (k + 1) = rdA (rdG w f t l r) p w.length 0 ∧ B_X7_ruled_52 N (L_X7_ruled_19 N F) m (nI f) (nI t) (an l) (an r) (nI p) (nI c) (nI k) (nI g) = (fun (_ : Unit) => L_X7_ruled_19 N F m (nI f) (nI t) (an l) (an r) (nI p) (nI (cnt (fun a => decide (rdG w f t l r a ≠ 8)) (k + 1))) (nI (k + 1))) s') ∨ B_X7_ruled_52 N (L_X7_ruled_19 N F) m (nI f) (nI t) (an l) (an r) (nI p) (nI c) (nI k) (nI g) = some (.inl (nI (rdA (rdG w f t l r) p w.length 0)), m) := by
      intro g hg hgd
      rw [← hgd] at hI hcs
      unfold B_X7_ruled_52 B_X7_ruled_74
      by_cases c1 : g = 8
      · left
        rw [if_neg (by rw [c1]; simp)] at hI
        rw [decide_eq_false (by rw [c1]; simp), if_neg (by simp), Nat.add_zero] at hcs
        refine ⟨(), by rw [hd2]; exact hI, ?_⟩
        show _ = L_X7_ruled_19 N F m (nI f) (nI t) (an l) (an r) (nI p) (nI (cnt (fun a => decide (rdG w f t l r a ≠ 8)) (k + 1))) (nI (k + 1))
        rw [hcs]
        simp (disch := omega) only [zi_t, zi_f, bnd_t, zg_in, zx, nI_ltI, nI_leI, nI_eq, nI_add, pk_mul, pk_sub, mup_s, mup_c, mup_j, mrw_c, if_pos, if_neg, zm_1, zm_2, zm_3, zm_4, zm_5, zm_6, zm_7, zm_8, zm_9, zf_0, zf_1, zf_2, zf_3, zf_4, zf_5, zf_6, zf_7, zf_8, zf_9, zf_10, zf_14, zf_15, zf_16, zf_18, zf_19, zf_20, zf_24, zf_30, zf_31, zf_32, zf_33, zf_99, zf_100, zf_160, zf_200, zf_287, zf_288, zf_300, zf_1000, zf_1023, zf_1024, zf_1600, zf_3840, zf_25600, zf_36000, zf_1000000, zf_1000000000, zf_2000000000, zf_11560, za_1, za_2, za_4, za_5, za_6, za_7, za_8, za_9, za_10, za_11, za_12, za_14, za_15, za_22, za_23, za_25, za_26, za_27, za_28, za_29, za_30, za_31, za_32, za_33, za_34, za_35, za_41, za_42, za_43, za_44, za_45, za_46, za_47, za_48, za_49, za_61, za_62, za_63, za_64, za_65, za_70, c1, Nat.add_zero]
      · by_cases c2 : c = p
        · right
          rw [if_pos ⟨c1, c2⟩] at hI
          rw [← hI]
          simp (disch := omega) only [zi_t, zi_f, bnd_t, zg_in, zx, nI_ltI, nI_leI, nI_eq, nI_add, pk_mul, pk_sub, mup_s, mup_c, mup_j, mrw_c, if_pos, if_neg, zm_1, zm_2, zm_3, zm_4, zm_5, zm_6, zm_7, zm_8, zm_9, zf_0, zf_1, zf_2, zf_3, zf_4, zf_5, zf_6, zf_7, zf_8, zf_9, zf_10, zf_14, zf_15, zf_16, zf_18, zf_19, zf_20, zf_24, zf_30, zf_31, zf_32, zf_33, zf_99, zf_100, zf_160, zf_200, zf_287, zf_288, zf_300, zf_1000, zf_1023, zf_1024, zf_1600, zf_3840, zf_25600, zf_36000, zf_1000000, zf_1000000000, zf_2000000000, zf_11560, za_1, za_2, za_4, za_5, za_6, za_7, za_8, za_9, za_10, za_11, za_12, za_14, za_15, za_22, za_23, za_25, za_26, za_27, za_28, za_29, za_30, za_31, za_32, za_33, za_34, za_35, za_41, za_42, za_43, za_44, za_45, za_46, za_47, za_48, za_49, za_61, za_62, za_63, za_64, za_65, za_70]
        · left
          rw [if_neg (fun h => c2 h.2)] at hI
          rw [decide_eq_true c1, if_pos rfl] at hcs
          refine ⟨(), by rw [hd2]; exact hI, ?_⟩
          show _ = L_X7_ruled_19 N F m (nI f) (nI t) (an l) (an r) (nI p) (nI (cnt (fun a => decide (rdG w f t l r a ≠ 8)) (k + 1))) (nI (k + 1))
          rw [hcs]
          simp (disch := omega) only [zi_t, zi_f, bnd_t, zg_in, zx, nI_ltI, nI_leI, nI_eq, nI_add, pk_mul, pk_sub, mup_s, mup_c, mup_j, mrw_c, if_pos, if_neg, zm_1, zm_2, zm_3, zm_4, zm_5, zm_6, zm_7, zm_8, zm_9, zf_0, zf_1, zf_2, zf_3, zf_4, zf_5, zf_6, zf_7, zf_8, zf_9, zf_10, zf_14, zf_15, zf_16, zf_18, zf_19, zf_20, zf_24, zf_30, zf_31, zf_32, zf_33, zf_99, zf_100, zf_160, zf_200, zf_287, zf_288, zf_300, zf_1000, zf_1023, zf_1024, zf_1600, zf_3840, zf_25600, zf_36000, zf_1000000, zf_1000000000, zf_2000000000, zf_11560, za_1, za_2, za_4, za_5, za_6, za_7, za_8, za_9, za_10, za_11, za_12, za_14, za_15, za_22, za_23, za_25, za_26, za_27, za_28, za_29, za_30, za_31, za_32, za_33, za_34, za_35, za_41, za_42, za_43, za_44, za_45, za_46, za_47, za_48, za_49, za_61, za_62, za_63, za_64, za_65, za_70]
    show (∃ s' : Unit, _ ∧ S_X7_ruled_19 N (L_X7_ruled_19 N F) m (nI f) (nI t) (an l) (an r) (nI p) (nI (cnt (fun a => decide (rdG w f t l r a ≠ 8)) k)) (nI k) = _) ∨ S_X7_ruled_19 N (L_X7_ruled_19 N F) m (nI f) (nI t) (an l) (an r) (nI p) (nI (cnt (fun a => decide (rdG w f t l r a ≠ 8)) k)) (nI k) = _
    rw [← hc]
    unfold S_X7_ruled_19
    simp (disch := omega) only [zi_t, zi_f, bnd_t, zg_in, zx, nI_ltI, nI_leI, nI_eq, nI_add, pk_mul, pk_sub, mup_s, mup_c, mup_j, mrw_c, if_pos, if_neg, zm_1, zm_2, zm_3, zm_4, zm_5, zm_6, zm_7, zm_8, zm_9, zf_0, zf_1, zf_2, zf_3, zf_4, zf_5, zf_6, zf_7, zf_8, zf_9, zf_10, zf_14, zf_15, zf_16, zf_18, zf_19, zf_20, zf_24, zf_30, zf_31, zf_32, zf_33, zf_99, zf_100, zf_160, zf_200, zf_287, zf_288, zf_300, zf_1000, zf_1023, zf_1024, zf_1600, zf_3840, zf_25600, zf_36000, zf_1000000, zf_1000000000, zf_2000000000, zf_11560, za_1, za_2, za_4, za_5, za_6, za_7, za_8, za_9, za_10, za_11, za_12, za_14, za_15, za_22, za_23, za_25, za_26, za_27, za_28, za_29, za_30, za_31, za_32, za_33, za_34, za_35, za_41, za_42, za_43, za_44, za_45, za_46, za_47, za_48, za_49, za_61, za_62, za_63, za_64, za_65, za_70, h1]
    rw [cal_t hrw]
    cases hb : rwB w f l r k with
    | true =>
      simp (disch := omega) only [zi_t, zi_f, bnd_t, zg_in, zx, nI_ltI, nI_leI, nI_eq, nI_add, pk_mul, pk_sub, mup_s, mup_c, mup_j, mrw_c, if_pos, if_neg, zm_1, zm_2, zm_3, zm_4, zm_5, zm_6, zm_7, zm_8, zm_9, zf_0, zf_1, zf_2, zf_3, zf_4, zf_5, zf_6, zf_7, zf_8, zf_9, zf_10, zf_14, zf_15, zf_16, zf_18, zf_19, zf_20, zf_24, zf_30, zf_31, zf_32, zf_33, zf_99, zf_100, zf_160, zf_200, zf_287, zf_288, zf_300, zf_1000, zf_1023, zf_1024, zf_1600, zf_3840, zf_25600, zf_36000, zf_1000000, zf_1000000000, zf_2000000000, zf_11560, za_1, za_2, za_4, za_5, za_6, za_7, za_8, za_9, za_10, za_11, za_12, za_14, za_15, za_22, za_23, za_25, za_26, za_27, za_28, za_29, za_30, za_31, za_32, za_33, za_34, za_35, za_41, za_42, za_43, za_44, za_45, za_46, za_47, za_48, za_49, za_61, za_62, za_63, za_64, za_65, za_70, bI_t]
      exact hB t ht (by unfold rdG; rw [hb, if_pos rfl])
    | false =>
      simp (disch := omega) only [zi_t, zi_f, bnd_t, zg_in, zx, nI_ltI, nI_leI, nI_eq, nI_add, pk_mul, pk_sub, mup_s, mup_c, mup_j, mrw_c, if_pos, if_neg, zm_1, zm_2, zm_3, zm_4, zm_5, zm_6, zm_7, zm_8, zm_9, zf_0, zf_1, zf_2, zf_3, zf_4, zf_5, zf_6, zf_7, zf_8, zf_9, zf_10, zf_14, zf_15, zf_16, zf_18, zf_19, zf_20, zf_24, zf_30, zf_31, zf_32, zf_33, zf_99, zf_100, zf_160, zf_200, zf_287, zf_288, zf_300, zf_1000, zf_1023, zf_1024, zf_1600, zf_3840, zf_25600, zf_36000, zf_1000000, zf_1000000000, zf_2000000000, zf_11560, za_1, za_2, za_4, za_5, za_6, za_7, za_8, za_9, za_10, za_11, za_12, za_14, za_15, za_22, za_23, za_25, za_26, za_27, za_28, za_29, za_30, za_31, za_32, za_33, za_34, za_35, za_41, za_42, za_43, za_44, za_45, za_46, za_47, za_48, za_49, za_61, za_62, za_63, za_64, za_65, za_70, bI_f, e0]
      exact hB (w.getD k 0) (by omega) (by unfold rdG; rw [hb, if_neg (by simp)])
  · rintro F _ hI
    rw [Nat.sub_self] at hI
    rw [← hI]
    show S_X7_ruled_19 N (L_X7_ruled_19 N F) m (nI f) (nI t) (an l) (an r) (nI p) _ (nI w.length) = _
    unfold S_X7_ruled_19
    simp (disch := omega) only [zi_t, zi_f, bnd_t, zg_in, zx, nI_ltI, nI_leI, nI_eq, nI_add, pk_mul, pk_sub, mup_s, mup_c, mup_j, mrw_c, if_pos, if_neg, zm_1, zm_2, zm_3, zm_4, zm_5, zm_6, zm_7, zm_8, zm_9, zf_0, zf_1, zf_2, zf_3, zf_4, zf_5, zf_6, zf_7, zf_8, zf_9, zf_10, zf_14, zf_15, zf_16, zf_18, zf_19, zf_20, zf_24, zf_30, zf_31, zf_32, zf_33, zf_99, zf_100, zf_160, zf_200, zf_287, zf_288, zf_300, zf_1000, zf_1023, zf_1024, zf_1600, zf_3840, zf_25600, zf_36000, zf_1000000, zf_1000000000, zf_2000000000, zf_11560, za_1, za_2, za_4, za_5, za_6, za_7, za_8, za_9, za_10, za_11, za_12, za_14, za_15, za_22, za_23, za_25, za_26, za_27, za_28, za_29, za_30, za_31, za_32, za_33, za_34, za_35, za_41, za_42, za_43, za_44, za_45, za_46, za_47, za_48, za_49, za_61, za_62, za_63, za_64, za_65, za_70, h1]
    rfl
