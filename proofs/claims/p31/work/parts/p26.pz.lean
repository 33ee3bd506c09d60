
/-! a turn of the law: deeds that make machines -/
theorem on_mk {N : Nat} {m : Mem} {Ms : List Ma} {w : List Nat} {x1 x2 x3 x4 x5 x6 : Int32} {oM : Option Ma} (hW : Wl m Ms w) (h : CR (F_L_asks N m x1 x2 x3 x4 x5 x6) m (rsC Ms.length oM) (Ms ++ oM.toList) w []) (hM : ∀ M, oM = some M → Ms.length < 24 ∧ VM M ∧ MdM M) :
    ∃ m1 told, F_L_on N m x1 x2 x3 x4 x5 x6 = some (told, m1) ∧ Wl m1 (Ms ++ oM.toList) w ∧ ((told = (-13 : Int32) ∧ oM = none) ∨ ∃ M, oM = some M ∧ told = nI Ms.length ∧ Ms.length < 24) := by
  obtain ⟨m1, h1, h2, h3⟩ := h
  cases oM with
  | none =>
    have e : Ms ++ (none : Option Ma).toList = Ms := List.append_nil _
    rw [e] at h2 ⊢
    exact ⟨m1, _, on_e h1, hW.cq h2 (h3 70 (by omega) (by omega)), Or.inl ⟨rfl, rfl⟩⟩
  | some M =>
    obtain ⟨c1, c2, c3⟩ := hM M rfl
    refine ⟨m1, _, on_t h1, ⟨inv_add hW.1 (fun M' hM' => ⟨(hM M' hM').1, (hM M' hM').2.1⟩), h2, hW.2.2.1.cg (h3 70 (by omega) (by omega)), fun M' hM' => ?_⟩, Or.inr ⟨M, rfl, rfl, c1⟩⟩
    rcases List.mem_append.mp hM' with e | e
    · exact hW.2.2.2 M' e
    · have e : M' ∈ [M] := e
      rw [List.mem_singleton.mp e]
      exact c3
section TURN2
variable {N L : Nat} {xs : Nat → Int32} {rec : Mem → Int32 → Int32 → Int32 → Int32 → Int32 → Option (Int32 × Mem)} {x6 : Int32} {t : Nat} {m : Mem} {Ms : List Ma} {w : List Nat}
theorem lw_told (hN : 40000 < N) (ht : t < 1000) {y : Nat} (hy : y < 2 ^ 31) {x1 x2 x3 x4 x5 x6' : Int32} {oM : Option Ma} (hW : Wl m Ms w) (h : CR (F_L_asks N m x1 x2 x3 x4 x5 x6') m (rsC Ms.length oM) (Ms ++ oM.toList) w []) (hM : ∀ M, oM = some M → Ms.length < 24 ∧ VM M ∧ MdM M) :
    Nx rec x6 t (cal (F_L_on N m x1 x2 x3 x4 x5 x6') fun r m1 => B_L_law_796 N L xs rec m1 (nI w.length) (nI Ms.length) (nI 1) x6 (nI t) (nI y) r) := by
  obtain ⟨m1, told, h1, h2, h3⟩ := on_mk hW h hM
  rw [cal_t h1]
  refine lw_796 hN h2 ht hy ?_
  rcases h3 with ⟨e1, e2⟩ | ⟨M, e1, e2, e3⟩
  · subst e2
    exact Or.inl ⟨e1, by rw [show Ms ++ (none : Option Ma).toList = Ms from List.append_nil _]⟩
  · subst e1
    have hl : (Ms ++ (some M).toList).length = Ms.length + 1 := by rw [List.length_append]; rfl
    exact Or.inr ⟨Ms.length, e2, by omega, by rw [if_neg (Nat.lt_irrefl _), hl]⟩
theorem lw_mkr (hN : 40000 < N) (ht : t < 1000) {y : Nat} (hy : y < 2 ^ 31) {x1 x2 x3 x4 x5 x6' : Int32} {c : Mem → Option ((Int32 ⊕ Nat) × Mem)} (hW : Wl m Ms w) (he : F_L_asks N m x1 x2 x3 x4 x5 x6' = c m) (h : MkR (fun _ => True) c Ms w []) :
    Nx rec x6 t (cal (F_L_on N m x1 x2 x3 x4 x5 x6') fun r m1 => B_L_law_796 N L xs rec m1 (nI w.length) (nI Ms.length) (nI 1) x6 (nI t) (nI y) r) := by
  obtain ⟨oM, h1, h2⟩ := h
  refine lw_told hN ht hy hW (oM := oM) (by rw [he]; exact h2 m hW.2.1) (fun M hM => ⟨(h1 M hM).1, (h1 M hM).2.1, (h1 M hM).2.2.1⟩)
/-- deed 1 -/
theorem lw_290 (hN : 40000 < N) (ht : t < 1000) {y a : Nat} (hy : y < 2 ^ 31) (ha : a < 9) (hW : Wl m Ms w) : Nx rec x6 t (B_L_law_290 N L xs rec m (nI w.length) (nI Ms.length) (nI 1) x6 (nI t) (nI y) (nI a) (nI 0)) := by
  have h3 : q_shr (nI y) (nI 3) = nI (y / 8) := sh_3 hy
  have ec : q_rem (q_shr (nI y) (nI 5)) (nI 9) = nI (y / 32 % 9) := by rw [sh_5 hy, rm_n (by omega) (by omega) (by omega)]
  have hc := Nat.mod_lt (y / 32) (show 9 > 0 by omega)
  have go : ∀ b, b < 9 → Nx rec x6 t (B_L_law_311 N L xs rec m (nI w.length) (nI Ms.length) (nI 1) x6 (nI t) (nI y) (nI b) (nI a) (nI 0)) := by
    intro b hb
    unfold B_L_law_311
    simp (disch := omega) only [zi_t, zi_f, bnd_t, zg_in, zx, nI_ltI, nI_leI, nI_eq, nI_add, pk_mul, pk_sub, mup_s, mup_c, mup_j, mrw_c, if_pos, if_neg, zm_1, zm_2, zm_3, zm_4, zm_5, zm_6, zm_7, zm_8, zm_9, zf_0, zf_1, zf_2, zf_3, zf_4, zf_5, zf_6, zf_7, zf_8, zf_9, zf_10, zf_14, zf_15, zf_16, zf_18, zf_19, zf_20, zf_24, zf_30, zf_31, zf_32, zf_33, zf_99, zf_100, zf_160, zf_200, zf_287, zf_288, zf_300, zf_1000, zf_1023, zf_1024, zf_1600, zf_3840, zf_25600, zf_36000, zf_1000000, zf_1000000000, zf_2000000000, zf_11560, za_1, za_2, za_4, za_5, za_6, za_7, za_8, za_9, za_10, za_11, za_12, za_14, za_15, za_22, za_23, za_25, za_26, za_27, za_28, za_29, za_30, za_31, za_32, za_33, za_34, za_35, za_41, za_42, za_43, za_44, za_45, za_46, za_47, za_48, za_49, za_61, za_62, za_63, za_64, za_65, za_70, ec]
    exact lw_mkr hN ht hy (c := fun m => F_X7_pair N m (nI a) (nI b) (nI (y / 32 % 9))) hW ask_0 (mk_pair hN ha hb (by omega) Ms w [] hW.1)
  unfold B_L_law_290
  simp (disch := omega) only [zi_t, zi_f, bnd_t, zg_in, zx, nI_ltI, nI_leI, nI_eq, nI_add, pk_mul, pk_sub, mup_s, mup_c, mup_j, mrw_c, if_pos, if_neg, zm_1, zm_2, zm_3, zm_4, zm_5, zm_6, zm_7, zm_8, zm_9, zf_0, zf_1, zf_2, zf_3, zf_4, zf_5, zf_6, zf_7, zf_8, zf_9, zf_10, zf_14, zf_15, zf_16, zf_18, zf_19, zf_20, zf_24, zf_30, zf_31, zf_32, zf_33, zf_99, zf_100, zf_160, zf_200, zf_287, zf_288, zf_300, zf_1000, zf_1023, zf_1024, zf_1600, zf_3840, zf_25600, zf_36000, zf_1000000, zf_1000000000, zf_2000000000, zf_11560, za_1, za_2, za_4, za_5, za_6, za_7, za_8, za_9, za_10, za_11, za_12, za_14, za_15, za_22, za_23, za_25, za_26, za_27, za_28, za_29, za_30, za_31, za_32, za_33, za_34, za_35, za_41, za_42, za_43, za_44, za_45, za_46, za_47, za_48, za_49, za_61, za_62, za_63, za_64, za_65, za_70, h3]
  have e3 : nI (y / 8) &&& nI 3 = nI (y / 8 % 4) := am_3 (by omega)
  rw [e3]
  by_cases c : y / 8 % 4 = 3
  · simp (disch := omega) only [zi_t, zi_f, bnd_t, zg_in, zx, nI_ltI, nI_leI, nI_eq, nI_add, pk_mul, pk_sub, mup_s, mup_c, mup_j, mrw_c, if_pos, if_neg, zm_1, zm_2, zm_3, zm_4, zm_5, zm_6, zm_7, zm_8, zm_9, zf_0, zf_1, zf_2, zf_3, zf_4, zf_5, zf_6, zf_7, zf_8, zf_9, zf_10, zf_14, zf_15, zf_16, zf_18, zf_19, zf_20, zf_24, zf_30, zf_31, zf_32, zf_33, zf_99, zf_100, zf_160, zf_200, zf_287, zf_288, zf_300, zf_1000, zf_1023, zf_1024, zf_1600, zf_3840, zf_25600, zf_36000, zf_1000000, zf_1000000000, zf_2000000000, zf_11560, za_1, za_2, za_4, za_5, za_6, za_7, za_8, za_9, za_10, za_11, za_12, za_14, za_15, za_22, za_23, za_25, za_26, za_27, za_28, za_29, za_30, za_31, za_32, za_33, za_34, za_35, za_41, za_42, za_43, za_44, za_45, za_46, za_47, za_48, za_49, za_61, za_62, za_63, za_64, za_65, za_70, c]
    exact go 8 (by omega)
  · simp (disch := omega) only [zi_t, zi_f, bnd_t, zg_in, zx, nI_ltI, nI_leI, nI_eq, nI_add, pk_mul, pk_sub, mup_s, mup_c, mup_j, mrw_c, if_pos, if_neg, zm_1, zm_2, zm_3, zm_4, zm_5, zm_6, zm_7, zm_8, zm_9, zf_0, zf_1, zf_2, zf_3, zf_4, zf_5, zf_6, zf_7, zf_8, zf_9, zf_10, zf_14, zf_15, zf_16, zf_18, zf_19, zf_20, zf_24, zf_30, zf_31, zf_32, zf_33, zf_99, zf_100, zf_160, zf_200, zf_287, zf_288, zf_300, zf_1000, zf_1023, zf_1024, zf_1600, zf_3840, zf_25600, zf_36000, zf_1000000, zf_1000000000, zf_2000000000, zf_11560, za_1, za_2, za_4, za_5, za_6, za_7, za_8, za_9, za_10, za_11, za_12, za_14, za_15, za_22, za_23, za_25, za_26, za_27, za_28, za_29, za_30, za_31, za_32, za_33, za_34, za_35, za_41, za_42, za_43, za_44, za_45, za_46, za_47, za_48, za_49, za_61, za_62, za_63, za_64, za_65, za_70, c]
    rw [rm_n (by omega) (by omega) (by omega)]
    exact go _ (by omega)
theorem lw_d1 (hN : 40000 < N) (ht : t < 1000) {y : Nat} {x11 s0 : Int32} (hy : y < 2 ^ 31) (hW : Wl m Ms w) : Nx rec x6 t (B_L_law_159 N L xs rec m (nI w.length) (nI Ms.length) (nI 1) x6 (nI t) (nI y) (nI 1) x11 s0) := by
  have h1 : q_shr (nI y) (nI 1) = nI (y / 2) := sh_1 hy
  have e3 : nI (y / 2) &&& nI 3 = nI (y / 2 % 4) := am_3 (by omega)
  unfold B_L_law_159
  simp (disch := omega) only [zi_t, zi_f, bnd_t, zg_in, zx, nI_ltI, nI_leI, nI_eq, nI_add, pk_mul, pk_sub, mup_s, mup_c, mup_j, mrw_c, if_pos, if_neg, zm_1, zm_2, zm_3, zm_4, zm_5, zm_6, zm_7, zm_8, zm_9, zf_0, zf_1, zf_2, zf_3, zf_4, zf_5, zf_6, zf_7, zf_8, zf_9, zf_10, zf_14, zf_15, zf_16, zf_18, zf_19, zf_20, zf_24, zf_30, zf_31, zf_32, zf_33, zf_99, zf_100, zf_160, zf_200, zf_287, zf_288, zf_300, zf_1000, zf_1023, zf_1024, zf_1600, zf_3840, zf_25600, zf_36000, zf_1000000, zf_1000000000, zf_2000000000, zf_11560, za_1, za_2, za_4, za_5, za_6, za_7, za_8, za_9, za_10, za_11, za_12, za_14, za_15, za_22, za_23, za_25, za_26, za_27, za_28, za_29, za_30, za_31, za_32, za_33, za_34, za_35, za_41, za_42, za_43, za_44, za_45, za_46, za_47, za_48, za_49, za_61, za_62, za_63, za_64, za_65, za_70, h1, e3]
  by_cases c : y / 2 % 4 = 3
  · simp (disch := omega) only [zi_t, zi_f, bnd_t, zg_in, zx, nI_ltI, nI_leI, nI_eq, nI_add, pk_mul, pk_sub, mup_s, mup_c, mup_j, mrw_c, if_pos, if_neg, zm_1, zm_2, zm_3, zm_4, zm_5, zm_6, zm_7, zm_8, zm_9, zf_0, zf_1, zf_2, zf_3, zf_4, zf_5, zf_6, zf_7, zf_8, zf_9, zf_10, zf_14, zf_15, zf_16, zf_18, zf_19, zf_20, zf_24, zf_30, zf_31, zf_32, zf_33, zf_99, zf_100, zf_160, zf_200, zf_287, zf_288, zf_300, zf_1000, zf_1023, zf_1024, zf_1600, zf_3840, zf_25600, zf_36000, zf_1000000, zf_1000000000, zf_2000000000, zf_11560, za_1, za_2, za_4, za_5, za_6, za_7, za_8, za_9, za_10, za_11, za_12, za_14, za_15, za_22, za_23, za_25, za_26, za_27, za_28, za_29, za_30, za_31, za_32, za_33, za_34, za_35, za_41, za_42, za_43, za_44, za_45, za_46, za_47, za_48, za_49, za_61, za_62, za_63, za_64, za_65, za_70, c]
    exact lw_290 hN ht hy (by omega) hW
  · simp (disch := omega) only [zi_t, zi_f, bnd_t, zg_in, zx, nI_ltI, nI_leI, nI_eq, nI_add, pk_mul, pk_sub, mup_s, mup_c, mup_j, mrw_c, if_pos, if_neg, zm_1, zm_2, zm_3, zm_4, zm_5, zm_6, zm_7, zm_8, zm_9, zf_0, zf_1, zf_2, zf_3, zf_4, zf_5, zf_6, zf_7, zf_8, zf_9, zf_10, zf_14, zf_15, zf_16, zf_18, zf_19, zf_20, zf_24, zf_30, zf_31, zf_32, zf_33, zf_99, zf_100, zf_160, zf_200, zf_287, zf_288, zf_300, zf_1000, zf_1023, zf_1024, zf_1600, zf_3840, zf_25600, zf_36000, zf_1000000, zf_1000000000, zf_2000000000, zf_11560, za_1, za_2, za_4, za_5, za_6, za_7, za_8, za_9, za_10, za_11, za_12, za_14, za_15, za_22, za_23, za_25, za_26, za_27, za_28, za_29, za_30, za_31, za_32, za_33, za_34, za_35, za_41, za_42, za_43, za_44, za_45, za_46, za_47, za_48, za_49, za_61, za_62, za_63, za_64, za_65, za_70, c]
    rw [rm_n (by omega) (by omega) (by omega)]
    exact lw_290 hN ht hy (by omega) hW
/-- deed 2 -/
theorem lw_d2 (hN : 40000 < N) (ht : t < 1000) {y : Nat} {x11 s0 : Int32} (hy : y < 2 ^ 31) (hW : Wl m Ms w) : Nx rec x6 t (B_L_law_159 N L xs rec m (nI w.length) (nI Ms.length) (nI 1) x6 (nI t) (nI y) (nI 2) x11 s0) := by
  unfold B_L_law_159
  simp (disch := omega) only [zi_t, zi_f, bnd_t, zg_in, zx, nI_ltI, nI_leI, nI_eq, nI_add, pk_mul, pk_sub, mup_s, mup_c, mup_j, mrw_c, if_pos, if_neg, zm_1, zm_2, zm_3, zm_4, zm_5, zm_6, zm_7, zm_8, zm_9, zf_0, zf_1, zf_2, zf_3, zf_4, zf_5, zf_6, zf_7, zf_8, zf_9, zf_10, zf_14, zf_15, zf_16, zf_18, zf_19, zf_20, zf_24, zf_30, zf_31, zf_32, zf_33, zf_99, zf_100, zf_160, zf_200, zf_287, zf_288, zf_300, zf_1000, zf_1023, zf_1024, zf_1600, zf_3840, zf_25600, zf_36000, zf_1000000, zf_1000000000, zf_2000000000, zf_11560, za_1, za_2, za_4, za_5, za_6, za_7, za_8, za_9, za_10, za_11, za_12, za_14, za_15, za_22, za_23, za_25, za_26, za_27, za_28, za_29, za_30, za_31, za_32, za_33, za_34, za_35, za_41, za_42, za_43, za_44, za_45, za_46, za_47, za_48, za_49, za_61, za_62, za_63, za_64, za_65, za_70]
  rw [am_1 (by omega)]
  have : y % 2 = 0 ∨ y % 2 = 1 := by omega
  rcases this with e | e
  · rw [e]
    simp (disch := omega) only [zi_t, zi_f, bnd_t, zg_in, zx, nI_ltI, nI_leI, nI_eq, nI_add, pk_mul, pk_sub, mup_s, mup_c, mup_j, mrw_c, if_pos, if_neg, zm_1, zm_2, zm_3, zm_4, zm_5, zm_6, zm_7, zm_8, zm_9, zf_0, zf_1, zf_2, zf_3, zf_4, zf_5, zf_6, zf_7, zf_8, zf_9, zf_10, zf_14, zf_15, zf_16, zf_18, zf_19, zf_20, zf_24, zf_30, zf_31, zf_32, zf_33, zf_99, zf_100, zf_160, zf_200, zf_287, zf_288, zf_300, zf_1000, zf_1023, zf_1024, zf_1600, zf_3840, zf_25600, zf_36000, zf_1000000, zf_1000000000, zf_2000000000, zf_11560, za_1, za_2, za_4, za_5, za_6, za_7, za_8, za_9, za_10, za_11, za_12, za_14, za_15, za_22, za_23, za_25, za_26, za_27, za_28, za_29, za_30, za_31, za_32, za_33, za_34, za_35, za_41, za_42, za_43, za_44, za_45, za_46, za_47, za_48, za_49, za_61, za_62, za_63, za_64, za_65, za_70]
    exact lw_mkr hN ht hy (c := fun m => F_X7_word N m) hW ask_1 (mk_word hN Ms w [] hW.1)
  · rw [e]
    simp (disch := omega) only [zi_t, zi_f, bnd_t, zg_in, zx, nI_ltI, nI_leI, nI_eq, nI_add, pk_mul, pk_sub, mup_s, mup_c, mup_j, mrw_c, if_pos, if_neg, zm_1, zm_2, zm_3, zm_4, zm_5, zm_6, zm_7, zm_8, zm_9, zf_0, zf_1, zf_2, zf_3, zf_4, zf_5, zf_6, zf_7, zf_8, zf_9, zf_10, zf_14, zf_15, zf_16, zf_18, zf_19, zf_20, zf_24, zf_30, zf_31, zf_32, zf_33, zf_99, zf_100, zf_160, zf_200, zf_287, zf_288, zf_300, zf_1000, zf_1023, zf_1024, zf_1600, zf_3840, zf_25600, zf_36000, zf_1000000, zf_1000000000, zf_2000000000, zf_11560, za_1, za_2, za_4, za_5, za_6, za_7, za_8, za_9, za_10, za_11, za_12, za_14, za_15, za_22, za_23, za_25, za_26, za_27, za_28, za_29, za_30, za_31, za_32, za_33, za_34, za_35, za_41, za_42, za_43, za_44, za_45, za_46, za_47, za_48, za_49, za_61, za_62, za_63, za_64, za_65, za_70]
    exact lw_mkr hN ht hy (c := fun m => F_X7_any N m) hW ask_2 (mk_any hN Ms w [] hW.1)
/-- deeds 3 to 8 -/
theorem lw_d3 (hN : 40000 < N) (ht : t < 1000) {y d p q : Nat} (hy : y < 2 ^ 31) (hd1 : 3 ≤ d) (hd2 : d < 9) (hp : p < Ms.length) (hq : q < Ms.length) (hW : Wl m Ms w) : Nx rec x6 t (B_L_law_159 N L xs rec m (nI w.length) (nI Ms.length) (nI 1) x6 (nI t) (nI y) (nI d) (nI p) (nI q)) := by
  have v1 := hW.1.1
  unfold B_L_law_159 B_L_law_390
  simp (disch := omega) only [zi_t, zi_f, bnd_t, zg_in, zx, nI_ltI, nI_leI, nI_eq, nI_add, pk_mul, pk_sub, mup_s, mup_c, mup_j, mrw_c, if_pos, if_neg, zm_1, zm_2, zm_3, zm_4, zm_5, zm_6, zm_7, zm_8, zm_9, zf_0, zf_1, zf_2, zf_3, zf_4, zf_5, zf_6, zf_7, zf_8, zf_9, zf_10, zf_14, zf_15, zf_16, zf_18, zf_19, zf_20, zf_24, zf_30, zf_31, zf_32, zf_33, zf_99, zf_100, zf_160, zf_200, zf_287, zf_288, zf_300, zf_1000, zf_1023, zf_1024, zf_1600, zf_3840, zf_25600, zf_36000, zf_1000000, zf_1000000000, zf_2000000000, zf_11560, za_1, za_2, za_4, za_5, za_6, za_7, za_8, za_9, za_10, za_11, za_12, za_14, za_15, za_22, za_23, za_25, za_26, za_27, za_28, za_29, za_30, za_31, za_32, za_33, za_34, za_35, za_41, za_42, za_43, za_44, za_45, za_46, za_47, za_48, za_49, za_61, za_62, za_63, za_64, za_65, za_70]
  have : d = 3 ∨ d = 4 ∨ d = 5 ∨ d = 6 ∨ d = 7 ∨ d = 8 := by omega
  rcases this with rfl | rfl | rfl | rfl | rfl | rfl
  · simp (disch := omega) only [zi_t, zi_f, bnd_t, zg_in, zx, nI_ltI, nI_leI, nI_eq, nI_add, pk_mul, pk_sub, mup_s, mup_c, mup_j, mrw_c, if_pos, if_neg, zm_1, zm_2, zm_3, zm_4, zm_5, zm_6, zm_7, zm_8, zm_9, zf_0, zf_1, zf_2, zf_3, zf_4, zf_5, zf_6, zf_7, zf_8, zf_9, zf_10, zf_14, zf_15, zf_16, zf_18, zf_19, zf_20, zf_24, zf_30, zf_31, zf_32, zf_33, zf_99, zf_100, zf_160, zf_200, zf_287, zf_288, zf_300, zf_1000, zf_1023, zf_1024, zf_1600, zf_3840, zf_25600, zf_36000, zf_1000000, zf_1000000000, zf_2000000000, zf_11560, za_1, za_2, za_4, za_5, za_6, za_7, za_8, za_9, za_10, za_11, za_12, za_14, za_15, za_22, za_23, za_25, za_26, za_27, za_28, za_29, za_30, za_31, za_32, za_33, za_34, za_35, za_41, za_42, za_43, za_44, za_45, za_46, za_47, za_48, za_49, za_61, za_62, za_63, za_64, za_65, za_70]
    exact lw_mkr hN ht hy (c := fun m => F_X7_join N m (nI p) (nI q)) hW ask_3 (mk_join hN Ms w [] hW.1 hp hq)
  · simp (disch := omega) only [zi_t, zi_f, bnd_t, zg_in, zx, nI_ltI, nI_leI, nI_eq, nI_add, pk_mul, pk_sub, mup_s, mup_c, mup_j, mrw_c, if_pos, if_neg, zm_1, zm_2, zm_3, zm_4, zm_5, zm_6, zm_7, zm_8, zm_9, zf_0, zf_1, zf_2, zf_3, zf_4, zf_5, zf_6, zf_7, zf_8, zf_9, zf_10, zf_14, zf_15, zf_16, zf_18, zf_19, zf_20, zf_24, zf_30, zf_31, zf_32, zf_33, zf_99, zf_100, zf_160, zf_200, zf_287, zf_288, zf_300, zf_1000, zf_1023, zf_1024, zf_1600, zf_3840, zf_25600, zf_36000, zf_1000000, zf_1000000000, zf_2000000000, zf_11560, za_1, za_2, za_4, za_5, za_6, za_7, za_8, za_9, za_10, za_11, za_12, za_14, za_15, za_22, za_23, za_25, za_26, za_27, za_28, za_29, za_30, za_31, za_32, za_33, za_34, za_35, za_41, za_42, za_43, za_44, za_45, za_46, za_47, za_48, za_49, za_61, za_62, za_63, za_64, za_65, za_70]
    exact lw_mkr hN ht hy (c := fun m => F_X7_unite N m (nI p) (nI q)) hW ask_4 (mk_unite hN Ms w [] hW.1 hp hq)
  · simp (disch := omega) only [zi_t, zi_f, bnd_t, zg_in, zx, nI_ltI, nI_leI, nI_eq, nI_add, pk_mul, pk_sub, mup_s, mup_c, mup_j, mrw_c, if_pos, if_neg, zm_1, zm_2, zm_3, zm_4, zm_5, zm_6, zm_7, zm_8, zm_9, zf_0, zf_1, zf_2, zf_3, zf_4, zf_5, zf_6, zf_7, zf_8, zf_9, zf_10, zf_14, zf_15, zf_16, zf_18, zf_19, zf_20, zf_24, zf_30, zf_31, zf_32, zf_33, zf_99, zf_100, zf_160, zf_200, zf_287, zf_288, zf_300, zf_1000, zf_1023, zf_1024, zf_1600, zf_3840, zf_25600, zf_36000, zf_1000000, zf_1000000000, zf_2000000000, zf_11560, za_1, za_2, za_4, za_5, za_6, za_7, za_8, za_9, za_10, za_11, za_12, za_14, za_15, za_22, za_23, za_25, za_26, za_27, za_28, za_29, za_30, za_31, za_32, za_33, za_34, za_35, za_41, za_42, za_43, za_44, za_45, za_46, za_47, za_48, za_49, za_61, za_62, za_63, za_64, za_65, za_70]
    exact lw_mkr hN ht hy (c := fun m => F_X7_repeat N m (nI p)) hW ask_5 (mk_repeat hN Ms w [] hW.1 hp)
  · simp (disch := omega) only [zi_t, zi_f, bnd_t, zg_in, zx, nI_ltI, nI_leI, nI_eq, nI_add, pk_mul, pk_sub, mup_s, mup_c, mup_j, mrw_c, if_pos, if_neg, zm_1, zm_2, zm_3, zm_4, zm_5, zm_6, zm_7, zm_8, zm_9, zf_0, zf_1, zf_2, zf_3, zf_4, zf_5, zf_6, zf_7, zf_8, zf_9, zf_10, zf_14, zf_15, zf_16, zf_18, zf_19, zf_20, zf_24, zf_30, zf_31, zf_32, zf_33, zf_99, zf_100, zf_160, zf_200, zf_287, zf_288, zf_300, zf_1000, zf_1023, zf_1024, zf_1600, zf_3840, zf_25600, zf_36000, zf_1000000, zf_1000000000, zf_2000000000, zf_11560, za_1, za_2, za_4, za_5, za_6, za_7, za_8, za_9, za_10, za_11, za_12, za_14, za_15, za_22, za_23, za_25, za_26, za_27, za_28, za_29, za_30, za_31, za_32, za_33, za_34, za_35, za_41, za_42, za_43, za_44, za_45, za_46, za_47, za_48, za_49, za_61, za_62, za_63, za_64, za_65, za_70]
    exact lw_mkr hN ht hy (c := fun m => F_X7_turn N m (nI p)) hW ask_6 (mk_turn hN Ms w [] hW.1 hp)
  · simp (disch := omega) only [zi_t, zi_f, bnd_t, zg_in, zx, nI_ltI, nI_leI, nI_eq, nI_add, pk_mul, pk_sub, mup_s, mup_c, mup_j, mrw_c, if_pos, if_neg, zm_1, zm_2, zm_3, zm_4, zm_5, zm_6, zm_7, zm_8, zm_9, zf_0, zf_1, zf_2, zf_3, zf_4, zf_5, zf_6, zf_7, zf_8, zf_9, zf_10, zf_14, zf_15, zf_16, zf_18, zf_19, zf_20, zf_24, zf_30, zf_31, zf_32, zf_33, zf_99, zf_100, zf_160, zf_200, zf_287, zf_288, zf_300, zf_1000, zf_1023, zf_1024, zf_1600, zf_3840, zf_25600, zf_36000, zf_1000000, zf_1000000000, zf_2000000000, zf_11560, za_1, za_2, za_4, za_5, za_6, za_7, za_8, za_9, za_10, za_11, za_12, za_14, za_15, za_22, za_23, za_25, za_26, za_27, za_28, za_29, za_30, za_31, za_32, za_33, za_34, za_35, za_41, za_42, za_43, za_44, za_45, za_46, za_47, za_48, za_49, za_61, za_62, za_63, za_64, za_65, za_70]
    exact lw_mkr hN ht hy (c := fun m => F_X7_compose N m (nI p) (nI q)) hW ask_7 (mk_compose hN Ms w [] hW.1 hp hq)
  · have e10 : (q_shr (nI y) (nI 10)) &&& nI 1 = nI (y / 1024 % 2) := by rw [sh_10 hy, am_1 (by omega)]
    simp (disch := omega) only [zi_t, zi_f, bnd_t, zg_in, zx, nI_ltI, nI_leI, nI_eq, nI_add, pk_mul, pk_sub, mup_s, mup_c, mup_j, mrw_c, if_pos, if_neg, zm_1, zm_2, zm_3, zm_4, zm_5, zm_6, zm_7, zm_8, zm_9, zf_0, zf_1, zf_2, zf_3, zf_4, zf_5, zf_6, zf_7, zf_8, zf_9, zf_10, zf_14, zf_15, zf_16, zf_18, zf_19, zf_20, zf_24, zf_30, zf_31, zf_32, zf_33, zf_99, zf_100, zf_160, zf_200, zf_287, zf_288, zf_300, zf_1000, zf_1023, zf_1024, zf_1600, zf_3840, zf_25600, zf_36000, zf_1000000, zf_1000000000, zf_2000000000, zf_11560, za_1, za_2, za_4, za_5, za_6, za_7, za_8, za_9, za_10, za_11, za_12, za_14, za_15, za_22, za_23, za_25, za_26, za_27, za_28, za_29, za_30, za_31, za_32, za_33, za_34, za_35, za_41, za_42, za_43, za_44, za_45, za_46, za_47, za_48, za_49, za_61, za_62, za_63, za_64, za_65, za_70, e10]
    have : y / 1024 % 2 = 0 ∨ y / 1024 % 2 = 1 := by omega
    rcases this with e | e
    · rw [e]
      exact lw_mkr hN ht hy (c := fun m => F_X7_side N m (nI p) (bI false)) hW (ask_8 (u := false) rfl) (mk_side hN Ms w [] hW.1 hp)
    · rw [e]
      exact lw_mkr hN ht hy (c := fun m => F_X7_side N m (nI p) (bI true)) hW (ask_8 (u := true) rfl) (mk_side hN Ms w [] hW.1 hp)
/-- deed 0 -/
theorem lw_d0 (hN : 40000 < N) (ht : t < 1000) {y : Nat} {x11 s0 : Int32} (hy : y < 2 ^ 31) (hW : Wl m Ms w) : Nx rec x6 t (B_L_law_159 N L xs rec m (nI w.length) (nI Ms.length) (nI 1) x6 (nI t) (nI y) (nI 0) x11 s0) := by
  obtain ⟨hV, hC, hw, hM⟩ := id hW
  obtain ⟨v1, v2, v3, v4, v5, v6⟩ := hV
  have hlet : q_rem (q_shr (nI y) (nI 1)) (nI 3) = nI (y / 2 % 3) := by rw [sh_1 hy, rm_n (by omega) (by omega) (by omega)]
  have hlt := Nat.mod_lt (y / 2) (show 3 > 0 by omega)
  unfold B_L_law_159
  simp (disch := omega) only [zi_t, zi_f, bnd_t, zg_in, zx, nI_ltI, nI_leI, nI_eq, nI_add, pk_mul, pk_sub, mup_s, mup_c, mup_j, mrw_c, if_pos, if_neg, zm_1, zm_2, zm_3, zm_4, zm_5, zm_6, zm_7, zm_8, zm_9, zf_0, zf_1, zf_2, zf_3, zf_4, zf_5, zf_6, zf_7, zf_8, zf_9, zf_10, zf_14, zf_15, zf_16, zf_18, zf_19, zf_20, zf_24, zf_30, zf_31, zf_32, zf_33, zf_99, zf_100, zf_160, zf_200, zf_287, zf_288, zf_300, zf_1000, zf_1023, zf_1024, zf_1600, zf_3840, zf_25600, zf_36000, zf_1000000, zf_1000000000, zf_2000000000, zf_11560, za_1, za_2, za_4, za_5, za_6, za_7, za_8, za_9, za_10, za_11, za_12, za_14, za_15, za_22, za_23, za_25, za_26, za_27, za_28, za_29, za_30, za_31, za_32, za_33, za_34, za_35, za_41, za_42, za_43, za_44, za_45, za_46, za_47, za_48, za_49, za_61, za_62, za_63, za_64, za_65, za_70, hlet]
  rcases Nat.lt_or_ge w.length 8 with hl | hl
  · obtain ⟨m1, h1, h2, h3⟩ := ask_ty (N := N) (x2 := nI 0) (x3 := nI 0) (x4 := nI 0) (x5 := nI 0) hC (show y / 2 % 3 < 8 by omega) hl
    rw [cal_t (on_t h1)]
    have hW2 : Wl (mup m1 70 w.length (nI (y / 2 % 3))) Ms (w ++ [y / 2 % 3]) := by
      refine ⟨⟨v1, v2, by rw [List.length_append]; show w.length + 1 ≤ 8; omega, fun x hx => ?_, v5, v6⟩, h2.cg (fun k hk => mup_r (by omega)), fun j x hx => ?_, hM⟩
      · rcases List.mem_append.mp hx with e | e
        · exact v4 x e
        · rw [List.mem_singleton.mp e]; omega
      · rcases snoc_last hx with hx | ⟨rfl, rfl⟩
        · have hj := (List.getElem?_eq_some_iff.mp hx).1
          rw [mup_j (by omega), h3 70 (by omega)]
          exact hw j x hx
        · exact mup_s _ _ _ _
    have hlen : (w ++ [y / 2 % 3]).length = w.length + 1 := by rw [List.length_append]; rfl
    have := lw_796 (L := L) (xs := xs) (rec := rec) (x6 := x6) hN hW2 ht (y := y) (k := Ms.length) (x13 := (-13 : Int32)) hy (Or.inl ⟨rfl, rfl⟩)
    rw [hlen] at this
    unfold B_L_law_208 B_L_law_216 B_L_law_258
    simp (disch := omega) only [zi_t, zi_f, bnd_t, zg_in, zx, nI_ltI, nI_leI, nI_eq, nI_add, pk_mul, pk_sub, mup_s, mup_c, mup_j, mrw_c, if_pos, if_neg, zm_1, zm_2, zm_3, zm_4, zm_5, zm_6, zm_7, zm_8, zm_9, zf_0, zf_1, zf_2, zf_3, zf_4, zf_5, zf_6, zf_7, zf_8, zf_9, zf_10, zf_14, zf_15, zf_16, zf_18, zf_19, zf_20, zf_24, zf_30, zf_31, zf_32, zf_33, zf_99, zf_100, zf_160, zf_200, zf_287, zf_288, zf_300, zf_1000, zf_1023, zf_1024, zf_1600, zf_3840, zf_25600, zf_36000, zf_1000000, zf_1000000000, zf_2000000000, zf_11560, za_1, za_2, za_4, za_5, za_6, za_7, za_8, za_9, za_10, za_11, za_12, za_14, za_15, za_22, za_23, za_25, za_26, za_27, za_28, za_29, za_30, za_31, za_32, za_33, za_34, za_35, za_41, za_42, za_43, za_44, za_45, za_46, za_47, za_48, za_49, za_61, za_62, za_63, za_64, za_65, za_70]
    exact this
  · have e8 : w.length = 8 := by omega
    have h1 : F_L_asks N m 13 (nI (y / 2 % 3)) (nI 0) (nI 0) (nI 0) (nI 0) = some (.inr 1, m) := by
      rw [asks_13, calx_e (as_typeF hC (by omega) e8)]
    rw [cal_t (on_e h1)]
    obtain ⟨m2, k1, k2, k3⟩ := as_clearQ (N := N) hC
    have hW2 : Wl m2 Ms [] := ⟨⟨v1, v2, by simp, fun x hx => (by cases hx), v5, v6⟩, k2, fun j x hx => (by simp at hx), hM⟩
    have := lw_796 (L := L) (xs := xs) (rec := rec) (x6 := x6) hN hW2 ht (y := y) (k := Ms.length) (x13 := (-13 : Int32)) hy (Or.inl ⟨rfl, rfl⟩)
    rw [e8] at k1
    unfold B_L_law_208 B_L_law_216
    simp (disch := omega) only [zi_t, zi_f, bnd_t, zg_in, zx, nI_ltI, nI_leI, nI_eq, nI_add, pk_mul, pk_sub, mup_s, mup_c, mup_j, mrw_c, if_pos, if_neg, zm_1, zm_2, zm_3, zm_4, zm_5, zm_6, zm_7, zm_8, zm_9, zf_0, zf_1, zf_2, zf_3, zf_4, zf_5, zf_6, zf_7, zf_8, zf_9, zf_10, zf_14, zf_15, zf_16, zf_18, zf_19, zf_20, zf_24, zf_30, zf_31, zf_32, zf_33, zf_99, zf_100, zf_160, zf_200, zf_287, zf_288, zf_300, zf_1000, zf_1023, zf_1024, zf_1600, zf_3840, zf_25600, zf_36000, zf_1000000, zf_1000000000, zf_2000000000, zf_11560, za_1, za_2, za_4, za_5, za_6, za_7, za_8, za_9, za_10, za_11, za_12, za_14, za_15, za_22, za_23, za_25, za_26, za_27, za_28, za_29, za_30, za_31, za_32, za_33, za_34, za_35, za_41, za_42, za_43, za_44, za_45, za_46, za_47, za_48, za_49, za_61, za_62, za_63, za_64, za_65, za_70, e8]
    rw [cal_t k1]
    unfold B_L_law_254 B_L_law_258
    simp (disch := omega) only [zi_t, zi_f, bnd_t, zg_in, zx, nI_ltI, nI_leI, nI_eq, nI_add, pk_mul, pk_sub, mup_s, mup_c, mup_j, mrw_c, if_pos, if_neg, zm_1, zm_2, zm_3, zm_4, zm_5, zm_6, zm_7, zm_8, zm_9, zf_0, zf_1, zf_2, zf_3, zf_4, zf_5, zf_6, zf_7, zf_8, zf_9, zf_10, zf_14, zf_15, zf_16, zf_18, zf_19, zf_20, zf_24, zf_30, zf_31, zf_32, zf_33, zf_99, zf_100, zf_160, zf_200, zf_287, zf_288, zf_300, zf_1000, zf_1023, zf_1024, zf_1600, zf_3840, zf_25600, zf_36000, zf_1000000, zf_1000000000, zf_2000000000, zf_11560, za_1, za_2, za_4, za_5, za_6, za_7, za_8, za_9, za_10, za_11, za_12, za_14, za_15, za_22, za_23, za_25, za_26, za_27, za_28, za_29, za_30, za_31, za_32, za_33, za_34, za_35, za_41, za_42, za_43, za_44, za_45, za_46, za_47, za_48, za_49, za_61, za_62, za_63, za_64, za_65, za_70]
    exact this
end TURN2
