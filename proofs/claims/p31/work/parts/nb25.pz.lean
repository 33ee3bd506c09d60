theorem st_ok {N : Nat} {m : Mem} : F_X7_needStates N m (nI 1) = some (.inl 0, m) := by
  unfold F_X7_needStates
  simp (disch := omega) only [zi_t, zi_f, bnd_t, zg_in, zx, nI_ltI, nI_leI, nI_eq, nI_add, pk_mul, pk_sub, mup_s, mup_c, mup_j, mrw_c, if_pos, if_neg, zm_1, zm_2, zm_3, zm_4, zm_5, zm_6, zm_7, zm_8, zm_9, zf_0, zf_1, zf_2, zf_3, zf_4, zf_5, zf_6, zf_7, zf_8, zf_9, zf_10, zf_14, zf_15, zf_16, zf_18, zf_19, zf_20, zf_24, zf_30, zf_31, zf_32, zf_33, zf_99, zf_100, zf_160, zf_200, zf_287, zf_288, zf_300, zf_1000, zf_1023, zf_1024, zf_1600, zf_3840, zf_25600, zf_36000, zf_1000000, zf_1000000000, zf_2000000000, zf_11560, za_1, za_2, za_4, za_5, za_6, za_7, za_8, za_9, za_10, za_11, za_12, za_14, za_15, za_22, za_23, za_25, za_26, za_27, za_28, za_29, za_30, za_31, za_32, za_33, za_34, za_35, za_41, za_42, za_43, za_44, za_45, za_46, za_47, za_48, za_49, za_61, za_62, za_63, za_64, za_65, za_70]
theorem st_no {N : Nat} {m : Mem} : F_X7_needStates N m (nI 0) = some (.inr 1, m) := by
  unfold F_X7_needStates
  simp (disch := omega) only [zi_t, zi_f, bnd_t, zg_in, zx, nI_ltI, nI_leI, nI_eq, nI_add, pk_mul, pk_sub, mup_s, mup_c, mup_j, mrw_c, if_pos, if_neg, zm_1, zm_2, zm_3, zm_4, zm_5, zm_6, zm_7, zm_8, zm_9, zf_0, zf_1, zf_2, zf_3, zf_4, zf_5, zf_6, zf_7, zf_8, zf_9, zf_10, zf_14, zf_15, zf_16, zf_18, zf_19, zf_20, zf_24, zf_30, zf_31, zf_32, zf_33, zf_99, zf_100, zf_160, zf_200, zf_287, zf_288, zf_300, zf_1000, zf_1023, zf_1024, zf_1600, zf_3840, zf_25600, zf_36000, zf_1000000, zf_1000000000, zf_2000000000, zf_11560, za_1, za_2, za_4, za_5, za_6, za_7, za_8, za_9, za_10, za_11, za_12, za_14, za_15, za_22, za_23, za_25, za_26, za_27, za_28, za_29, za_30, za_31, za_32, za_33, za_34, za_35, za_41, za_42, za_43, za_44, za_45, za_46, za_47, za_48, za_49, za_61, za_62, za_63, za_64, za_65, za_70]
theorem InC.fw {m m' : Mem} {Ms : List Ma} {w : List Nat} {ls : Ls} {q q' : Nat} (h : InC m Ms w ls) (hf : FrW m m') (hq : QQ m' q q') : InC m' Ms w ls := by
  obtain ⟨h1, h2, h3, h4, h5, h6, h7⟩ := h
  refine ⟨by rw [hf 0 (by omega) (by omega) (by omega)]; exact h1, fun i M hM => (h2 i M hM).cg (hf _ (by omega) (by omega) (by omega)) (hf _ (by omega) (by omega) (by omega)) (hf _ (by omega) (by omega) (by omega)) (hf _ (by omega) (by omega) (by omega)), by rw [hf 0 (by omega) (by omega) (by omega)]; exact h3, fun j x hx => by rw [hf 1 (by omega) (by omega) (by omega)]; exact h4 j x hx, by rw [hf 60 (by omega) (by omega) (by omega)]; exact h5, fun i p hp => ?_, ?_⟩
  · obtain ⟨a, b, c⟩ := h6 i p hp
    exact ⟨by rw [hf 62 (by omega) (by omega) (by omega)]; exact a, by rw [hf 63 (by omega) (by omega) (by omega)]; exact b, fun j x hx => by rw [hf 61 (by omega) (by omega) (by omega)]; exact c j x hx⟩
  · obtain ⟨q1, q2, q3⟩ := hq
    rcases q3 with ⟨rfl, rfl⟩ | ⟨rfl, rfl⟩
    · exact Or.inl ⟨q1, q2⟩
    · exact Or.inr ⟨q1, q2⟩
theorem InC.qq {m : Mem} {Ms : List Ma} {w : List Nat} {ls : Ls} (h : InC m Ms w ls) : ∃ q q', QQ m q q' := by
  rcases h.2.2.2.2.2.2 with ⟨a, b⟩ | ⟨a, b⟩
  · exact ⟨33, 34, a, b, Or.inl ⟨rfl, rfl⟩⟩
  · exact ⟨34, 33, a, b, Or.inr ⟨rfl, rfl⟩⟩
theorem CR.fr {o : Option ((Int32 ⊕ Nat) × Mem)} {m m0 : Mem} {r : Int32 ⊕ Nat} {Ms : List Ma} {w : List Nat} {ls : Ls} (h : CR o m r Ms w ls) (hf : ∀ k, 64 ≤ k → k < 200 → m k = m0 k) : CR o m0 r Ms w ls := by
  obtain ⟨m1, h1, h2, h3⟩ := h
  exact ⟨m1, h1, h2, fun k a b => by rw [h3 k a b, hf k a b]⟩
