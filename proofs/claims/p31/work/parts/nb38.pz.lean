theorem cl_look {N i n : Nat} {u : Bool} {f : Nat → Bool} {L : ArL} {w : List Nat} {δ : Nat → Nat} {m : Mem} {Ms : List Ma} {ls : Ls} (hN : 40000 < N) (hV : InV Ms w ls) (hC : InC m Ms w ls) (hi : i < Ms.length) (gA : Ms[i]? = some (n, f, L)) (hδ : IsD (eU u L w) (En n f w) δ) :
    ∃ m', F_X7_lookUp N m (nI i) (bI u) = some m' ∧ SL m' (200 + 4 * i) (wU u) n f L w δ ∧ m' 40 13 = nI 0 ∧ Off 40 47 m m' := by
  obtain ⟨v1, v2, v3, v4, v5, v6⟩ := hV
  obtain ⟨a1, a2, a3, a4, a5, a6, a7⟩ := v2 _ (List.mem_of_getElem? gA)
  obtain ⟨m', g1, g2, g3, g4⟩ := cl_begin (N := N) (a := 200 + 4 * i) (way := wU u) hN (by omega) (by omega) (kn3 (by omega)) (hC.2.1 i _ gA) a5 a3 (wU_lt u).2 v3 v4 hC.2.2.2.1 a2 hδ
  refine ⟨m', ?_, g2, g3, g4⟩
  have e01 := hC.2.2.1
  unfold F_X7_lookUp B_X7_lookUp_9
  cases u with
  | false =>
    have g1 : F_X4_begin N m (200 + 4 * i) (nI w.length) (nI 0) = some m' := g1
    simp (disch := omega) only [zi_t, zi_f, bnd_t, zg_in, zx, nI_ltI, nI_leI, nI_eq, nI_add, pk_mul, pk_sub, mup_s, mup_c, mup_j, mrw_c, if_pos, if_neg, zm_1, zm_2, zm_3, zm_4, zm_5, zm_6, zm_7, zm_8, zm_9, zf_0, zf_1, zf_2, zf_3, zf_4, zf_5, zf_6, zf_7, zf_8, zf_9, zf_10, zf_14, zf_15, zf_16, zf_18, zf_19, zf_20, zf_24, zf_30, zf_31, zf_32, zf_33, zf_99, zf_100, zf_160, zf_200, zf_287, zf_288, zf_300, zf_1000, zf_1023, zf_1024, zf_1600, zf_3840, zf_25600, zf_36000, zf_1000000, zf_1000000000, zf_2000000000, zf_11560, za_1, za_2, za_4, za_5, za_6, za_7, za_8, za_9, za_10, za_11, za_12, za_14, za_15, za_22, za_23, za_25, za_26, za_27, za_28, za_29, za_30, za_31, za_32, za_33, za_34, za_35, za_41, za_42, za_43, za_44, za_45, za_46, za_47, za_48, za_49, za_61, za_62, za_63, za_64, za_65, za_70, bI_f, e01]
    rw [calv_t g1]
  | true =>
    have g1 : F_X4_begin N m (200 + 4 * i) (nI w.length) (nI 1) = some m' := g1
    simp (disch := omega) only [zi_t, zi_f, bnd_t, zg_in, zx, nI_ltI, nI_leI, nI_eq, nI_add, pk_mul, pk_sub, mup_s, mup_c, mup_j, mrw_c, if_pos, if_neg, zm_1, zm_2, zm_3, zm_4, zm_5, zm_6, zm_7, zm_8, zm_9, zf_0, zf_1, zf_2, zf_3, zf_4, zf_5, zf_6, zf_7, zf_8, zf_9, zf_10, zf_14, zf_15, zf_16, zf_18, zf_19, zf_20, zf_24, zf_30, zf_31, zf_32, zf_33, zf_99, zf_100, zf_160, zf_200, zf_287, zf_288, zf_300, zf_1000, zf_1023, zf_1024, zf_1600, zf_3840, zf_25600, zf_36000, zf_1000000, zf_1000000000, zf_2000000000, zf_11560, za_1, za_2, za_4, za_5, za_6, za_7, za_8, za_9, za_10, za_11, za_12, za_14, za_15, za_22, za_23, za_25, za_26, za_27, za_28, za_29, za_30, za_31, za_32, za_33, za_34, za_35, za_41, za_42, za_43, za_44, za_45, za_46, za_47, za_48, za_49, za_61, za_62, za_63, za_64, za_65, za_70, bI_t, e01]
    rw [calv_t g1]
theorem InC.o4 {m m' : Mem} {Ms : List Ma} {w : List Nat} {ls : Ls} (h : InC m Ms w ls) (hf : Off 40 50 m m') : InC m' Ms w ls := h.cg (fun k hk => hf k (by omega))
