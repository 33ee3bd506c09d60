
/-! a turn of the law: least and meet -/
theorem zl_11 : (11 : Int32) = nI 11 := rfl
theorem zl_23 : (23 : Int32) = nI 23 := rfl
section TURN3
variable {N L : Nat} {xs : Nat → Int32} {rec : Mem → Int32 → Int32 → Int32 → Int32 → Int32 → Option (Int32 × Mem)} {x6 : Int32} {t : Nat} {m : Mem} {Ms : List Ma} {w : List Nat}
theorem sn_at (Ms : List Ma) (M : Ma) : (Ms ++ [M])[Ms.length]? = some M := by
  rw [List.getElem?_append_right (Nat.le_refl _), Nat.sub_self]
  rfl
theorem sn_old {Ms : List Ma} {M : Ma} {i : Nat} {M' : Ma} (h : Ms[i]? = some M') : (Ms ++ [M])[i]? = some M' := by
  rw [List.getElem?_append_left (List.getElem?_eq_some_iff.mp h).1]
  exact h
theorem sn_len (Ms : List Ma) (M : Ma) : (Ms ++ [M]).length = Ms.length + 1 := by rw [List.length_append]; rfl
theorem lw_585 (hN : 40000 < N) (ht : t < 1000) {y c k : Nat} {x14 : Int32} (hy : y < 2 ^ 31) (hW : Wl m Ms w) (hc : c < Ms.length) (h : (x14 = (-13 : Int32) ∧ k = Ms.length) ∨ ∃ a, x14 = nI a ∧ a + 1 = Ms.length) : Nx rec x6 t (B_L_law_585 N L xs rec m (nI w.length) (nI k) x6 (nI t) (nI y) (nI c) x14) := by
  have v1 := hW.1.1
  have := lw_796 (L := L) (xs := xs) (rec := rec) (x6 := x6) hN hW ht (y := y) (k := Ms.length) (x13 := nI c) hy (Or.inr ⟨c, rfl, hc, by rw [if_pos hc]⟩)
  unfold B_L_law_585 B_L_law_590 B_L_law_606
  rcases h with ⟨e1, e2⟩ | ⟨a, e1, e2⟩
  · rw [e1, e2]
    simp (disch := omega) only [zi_t, zi_f, bnd_t, zg_in, zx, nI_ltI, nI_leI, nI_eq, nI_add, pk_mul, pk_sub, mup_s, mup_c, mup_j, mrw_c, if_pos, if_neg, zm_1, zm_2, zm_3, zm_4, zm_5, zm_6, zm_7, zm_8, zm_9, zf_0, zf_1, zf_2, zf_3, zf_4, zf_5, zf_6, zf_7, zf_8, zf_9, zf_10, zf_14, zf_15, zf_16, zf_18, zf_19, zf_20, zf_24, zf_30, zf_31, zf_32, zf_33, zf_99, zf_100, zf_160, zf_200, zf_287, zf_288, zf_300, zf_1000, zf_1023, zf_1024, zf_1600, zf_3840, zf_25600, zf_36000, zf_1000000, zf_1000000000, zf_2000000000, zf_11560, za_1, za_2, za_4, za_5, za_6, za_7, za_8, za_9, za_10, za_11, za_12, za_14, za_15, za_22, za_23, za_25, za_26, za_27, za_28, za_29, za_30, za_31, za_32, za_33, za_34, za_35, za_41, za_42, za_43, za_44, za_45, za_46, za_47, za_48, za_49, za_61, za_62, za_63, za_64, za_65, za_70, tt_3, show ((-13 : Int32) < nI 0) = True from tt_3 (by omega)]
    exact this
  · rw [e1]
    rw [← e2] at this
    simp (disch := omega) only [zi_t, zi_f, bnd_t, zg_in, zx, nI_ltI, nI_leI, nI_eq, nI_add, pk_mul, pk_sub, mup_s, mup_c, mup_j, mrw_c, if_pos, if_neg, zm_1, zm_2, zm_3, zm_4, zm_5, zm_6, zm_7, zm_8, zm_9, zf_0, zf_1, zf_2, zf_3, zf_4, zf_5, zf_6, zf_7, zf_8, zf_9, zf_10, zf_14, zf_15, zf_16, zf_18, zf_19, zf_20, zf_24, zf_30, zf_31, zf_32, zf_33, zf_99, zf_100, zf_160, zf_200, zf_287, zf_288, zf_300, zf_1000, zf_1023, zf_1024, zf_1600, zf_3840, zf_25600, zf_36000, zf_1000000, zf_1000000000, zf_2000000000, zf_11560, za_1, za_2, za_4, za_5, za_6, za_7, za_8, za_9, za_10, za_11, za_12, za_14, za_15, za_22, za_23, za_25, za_26, za_27, za_28, za_29, za_30, za_31, za_32, za_33, za_34, za_35, za_41, za_42, za_43, za_44, za_45, za_46, za_47, za_48, za_49, za_61, za_62, za_63, za_64, za_65, za_70]
    exact this
theorem lw_504 (hN : 40000 < N) (ht : t < 1000) {y : Nat} {M : Ma} (hy : y < 2 ^ 31) (hW : Wl m (Ms ++ [M]) w) (hM : NF M) : Nx rec x6 t (B_L_law_504 N L xs rec m (nI w.length) (nI (Ms.length + 1)) x6 (nI t) (nI y) (nI Ms.length)) := by
  have hl := sn_len Ms M
  have v1 := hW.1.1
  have hc : Ms.length < (Ms ++ [M]).length := by omega
  obtain ⟨oM, h1, h2, h3⟩ := mk_least (i := Ms.length) hN (Ms ++ [M]) w [] hW.1 hc
  obtain ⟨m1, told, k1, k2, k3⟩ := on_mk (x2 := nI Ms.length) (x3 := nI 0) (x4 := nI 0) (x5 := nI 0) (x6 := nI 0) (x1 := nI 9) (N := N) hW (oM := oM) (by rw [ask_9]; exact h3 m hW.2.1) (fun M' hM' => ⟨(h1 M' hM').1, (h1 M' hM').2.1, (h1 M' hM').2.2.1⟩)
  unfold B_L_law_504 B_L_law_509
  simp (disch := omega) only [zi_t, zi_f, bnd_t, zg_in, zx, nI_ltI, nI_leI, nI_eq, nI_add, pk_mul, pk_sub, mup_s, mup_c, mup_j, mrw_c, if_pos, if_neg, zm_1, zm_2, zm_3, zm_4, zm_5, zm_6, zm_7, zm_8, zm_9, zf_0, zf_1, zf_2, zf_3, zf_4, zf_5, zf_6, zf_7, zf_8, zf_9, zf_10, zf_14, zf_15, zf_16, zf_18, zf_19, zf_20, zf_24, zf_30, zf_31, zf_32, zf_33, zf_99, zf_100, zf_160, zf_200, zf_287, zf_288, zf_300, zf_1000, zf_1023, zf_1024, zf_1600, zf_3840, zf_25600, zf_36000, zf_1000000, zf_1000000000, zf_2000000000, zf_11560, za_1, za_2, za_4, za_5, za_6, za_7, za_8, za_9, za_10, za_11, za_12, za_14, za_15, za_22, za_23, za_25, za_26, za_27, za_28, za_29, za_30, za_31, za_32, za_33, za_34, za_35, za_41, za_42, za_43, za_44, za_45, za_46, za_47, za_48, za_49, za_61, za_62, za_63, za_64, za_65, za_70]
  rw [cal_t k1]
  rcases h2 M (sn_at Ms M) hM with e | ⟨e, e24⟩
  · rw [e] at k2 k3
    have k2 : Wl m1 ((Ms ++ [M]) ++ [M]) w := k2
    have hl2 := sn_len (Ms ++ [M]) M
    have v2 := k2.1.1
    have et : told = nI (Ms.length + 1) := by
      rcases k3 with ⟨_, k3⟩ | ⟨_, _, k3, _⟩
      · cases k3
      · rw [k3, hl]
    rw [et]
    have gN : ((Ms ++ [M]) ++ [M])[Ms.length + 1]? = some M := by rw [← hl]; exact sn_at (Ms ++ [M]) M
    have gO : ((Ms ++ [M]) ++ [M])[Ms.length]? = some M := sn_old (sn_at Ms M)
    obtain ⟨n, f, LM⟩ := M
    have s1 := as_size (N := N) k2.1 k2.2.1 gN
    have s2 := as_size (N := N) k2.1 k2.2.1 gO
    have pl : LM.all plQ = true := hM.pl
    obtain ⟨r, r1, r2, r3⟩ := as_apart hN k2.1 gN gO pl pl (fun w _ => Iff.rfl)
    have hv := hM.1
    have hr : r = .inl nM := r2 (exF_id hM.db hv.2.2.2.2.1 hv.1 hv.2.1).2
    obtain ⟨m2, q1, q2, q3⟩ := r3 m1 k2.2.1
    rw [hr] at q1
    have q0 : F_L_on N m1 12 (nI (Ms.length + 1)) (nI Ms.length) (nI 0) (nI 0) (nI 0) = some (nM, m2) := on_t (by rw [ask_12]; exact q1)
    have hlM : LM.length ≤ 160 := hv.2.2.1
    have hnM : n ≤ 32 := hv.2.1
    unfold B_L_law_544
    simp (disch := omega) only [zi_t, zi_f, bnd_t, zg_in, zx, nI_ltI, nI_leI, nI_eq, nI_add, pk_mul, pk_sub, mup_s, mup_c, mup_j, mrw_c, if_pos, if_neg, zm_1, zm_2, zm_3, zm_4, zm_5, zm_6, zm_7, zm_8, zm_9, zf_0, zf_1, zf_2, zf_3, zf_4, zf_5, zf_6, zf_7, zf_8, zf_9, zf_10, zf_14, zf_15, zf_16, zf_18, zf_19, zf_20, zf_24, zf_30, zf_31, zf_32, zf_33, zf_99, zf_100, zf_160, zf_200, zf_287, zf_288, zf_300, zf_1000, zf_1023, zf_1024, zf_1600, zf_3840, zf_25600, zf_36000, zf_1000000, zf_1000000000, zf_2000000000, zf_11560, za_1, za_2, za_4, za_5, za_6, za_7, za_8, za_9, za_10, za_11, za_12, za_14, za_15, za_22, za_23, za_25, za_26, za_27, za_28, za_29, za_30, za_31, za_32, za_33, za_34, za_35, za_41, za_42, za_43, za_44, za_45, za_46, za_47, za_48, za_49, za_61, za_62, za_63, za_64, za_65, za_70, tt_1]
    rw [clL_t s1, clL_t s2]
    simp (disch := omega) only [zi_t, zi_f, bnd_t, zg_in, zx, nI_ltI, nI_leI, nI_eq, nI_add, pk_mul, pk_sub, mup_s, mup_c, mup_j, mrw_c, if_pos, if_neg, zm_1, zm_2, zm_3, zm_4, zm_5, zm_6, zm_7, zm_8, zm_9, zf_0, zf_1, zf_2, zf_3, zf_4, zf_5, zf_6, zf_7, zf_8, zf_9, zf_10, zf_14, zf_15, zf_16, zf_18, zf_19, zf_20, zf_24, zf_30, zf_31, zf_32, zf_33, zf_99, zf_100, zf_160, zf_200, zf_287, zf_288, zf_300, zf_1000, zf_1023, zf_1024, zf_1600, zf_3840, zf_25600, zf_36000, zf_1000000, zf_1000000000, zf_2000000000, zf_11560, za_1, za_2, za_4, za_5, za_6, za_7, za_8, za_9, za_10, za_11, za_12, za_14, za_15, za_22, za_23, za_25, za_26, za_27, za_28, za_29, za_30, za_31, za_32, za_33, za_34, za_35, za_41, za_42, za_43, za_44, za_45, za_46, za_47, za_48, za_49, za_61, za_62, za_63, za_64, za_65, za_70]
    rw [cal_t q0]
    simp (disch := omega) only [zi_t, zi_f, bnd_t, zg_in, zx, nI_ltI, nI_leI, nI_eq, nI_add, pk_mul, pk_sub, mup_s, mup_c, mup_j, mrw_c, if_pos, if_neg, zm_1, zm_2, zm_3, zm_4, zm_5, zm_6, zm_7, zm_8, zm_9, zf_0, zf_1, zf_2, zf_3, zf_4, zf_5, zf_6, zf_7, zf_8, zf_9, zf_10, zf_14, zf_15, zf_16, zf_18, zf_19, zf_20, zf_24, zf_30, zf_31, zf_32, zf_33, zf_99, zf_100, zf_160, zf_200, zf_287, zf_288, zf_300, zf_1000, zf_1023, zf_1024, zf_1600, zf_3840, zf_25600, zf_36000, zf_1000000, zf_1000000000, zf_2000000000, zf_11560, za_1, za_2, za_4, za_5, za_6, za_7, za_8, za_9, za_10, za_11, za_12, za_14, za_15, za_22, za_23, za_25, za_26, za_27, za_28, za_29, za_30, za_31, za_32, za_33, za_34, za_35, za_41, za_42, za_43, za_44, za_45, za_46, za_47, za_48, za_49, za_61, za_62, za_63, za_64, za_65, za_70]
    exact lw_585 hN ht hy (k2.cq q2 (q3 70 (by omega) (by omega))) (by omega) (Or.inr ⟨Ms.length + 1, rfl, by omega⟩)
  · rw [e] at k2 k3
    have k2 : Wl m1 ((Ms ++ [M]) ++ []) w := k2
    rw [List.append_nil] at k2
    have et : told = (-13 : Int32) := by
      rcases k3 with ⟨k3, _⟩ | ⟨_, k3, _⟩
      · exact k3
      · cases k3
    rw [et]
    have e23 : Ms.length = 23 := by omega
    simp (disch := omega) only [zi_t, zi_f, bnd_t, zg_in, zx, nI_ltI, nI_leI, nI_eq, nI_add, pk_mul, pk_sub, mup_s, mup_c, mup_j, mrw_c, if_pos, if_neg, zm_1, zm_2, zm_3, zm_4, zm_5, zm_6, zm_7, zm_8, zm_9, zf_0, zf_1, zf_2, zf_3, zf_4, zf_5, zf_6, zf_7, zf_8, zf_9, zf_10, zf_14, zf_15, zf_16, zf_18, zf_19, zf_20, zf_24, zf_30, zf_31, zf_32, zf_33, zf_99, zf_100, zf_160, zf_200, zf_287, zf_288, zf_300, zf_1000, zf_1023, zf_1024, zf_1600, zf_3840, zf_25600, zf_36000, zf_1000000, zf_1000000000, zf_2000000000, zf_11560, za_1, za_2, za_4, za_5, za_6, za_7, za_8, za_9, za_10, za_11, za_12, za_14, za_15, za_22, za_23, za_25, za_26, za_27, za_28, za_29, za_30, za_31, za_32, za_33, za_34, za_35, za_41, za_42, za_43, za_44, za_45, za_46, za_47, za_48, za_49, za_61, za_62, za_63, za_64, za_65, za_70, tt_6, e23, zl_23]
    have := lw_585 (L := L) (xs := xs) (rec := rec) (x6 := x6) (c := Ms.length) (k := 24) (x14 := (-13 : Int32)) hN ht hy k2 hc (Or.inl ⟨rfl, by omega⟩)
    rw [e23] at this
    exact this
theorem lw_450 (hN : 40000 < N) (ht : t < 1000) {y d p : Nat} {x12 : Int32} (hy : y < 2 ^ 31) (hd : d < 16) (hW : Wl m Ms w) (h0 : 0 < Ms.length) {oM : Option Ma} {bit : Int32}
    (h : CR (F_L_asks N m (nI d) (nI p) x12 bit (nI 0) (nI 0)) m (rsC Ms.length oM) (Ms ++ oM.toList) w []) (hM : ∀ M, oM = some M → Ms.length < 24 ∧ VM M ∧ MdM M)
    (h9 : d = 9 → ∀ M, oM = some M → NF M ∧ ∃ n f LA, Ms[p]? = some (n, f, LA) ∧ LA.all plQ = true ∧ ∀ w, (∀ x, x ∈ w → x < 8) → (LangF 0 M.1 M.2.1 M.2.2 w ↔ LangF 0 n f LA w)) :
    Nx rec x6 t (cal (F_L_on N m (nI d) (nI p) x12 bit (nI 0) (nI 0)) fun r57 m56 => if r57 < nI Ms.length then B_L_law_450 N L xs rec m56 (nI w.length) (nI 1) x6 (nI t) (nI y) (nI d) (nI p) r57 (nI Ms.length) else B_L_law_450 N L xs rec m56 (nI w.length) (nI 1) x6 (nI t) (nI y) (nI d) (nI p) r57 (r57 + nI 1)) := by
  have v1 := hW.1.1
  obtain ⟨m1, told, k1, k2, k3⟩ := on_mk hW h hM
  rw [cal_t k1]
  rcases k3 with ⟨e1, e2⟩ | ⟨M, e1, e2, e3⟩
  · subst e2
    have k2 : Wl m1 (Ms ++ []) w := k2
    rw [List.append_nil] at k2
    rw [e1, if_pos (of_eq_true (tt_3 (a := Ms.length) (by omega)))]
    unfold B_L_law_450
    simp (disch := omega) only [zi_t, zi_f, bnd_t, zg_in, zx, nI_ltI, nI_leI, nI_eq, nI_add, pk_mul, pk_sub, mup_s, mup_c, mup_j, mrw_c, if_pos, if_neg, zm_1, zm_2, zm_3, zm_4, zm_5, zm_6, zm_7, zm_8, zm_9, zf_0, zf_1, zf_2, zf_3, zf_4, zf_5, zf_6, zf_7, zf_8, zf_9, zf_10, zf_14, zf_15, zf_16, zf_18, zf_19, zf_20, zf_24, zf_30, zf_31, zf_32, zf_33, zf_99, zf_100, zf_160, zf_200, zf_287, zf_288, zf_300, zf_1000, zf_1023, zf_1024, zf_1600, zf_3840, zf_25600, zf_36000, zf_1000000, zf_1000000000, zf_2000000000, zf_11560, za_1, za_2, za_4, za_5, za_6, za_7, za_8, za_9, za_10, za_11, za_12, za_14, za_15, za_22, za_23, za_25, za_26, za_27, za_28, za_29, za_30, za_31, za_32, za_33, za_34, za_35, za_41, za_42, za_43, za_44, za_45, za_46, za_47, za_48, za_49, za_61, za_62, za_63, za_64, za_65, za_70, show ((-13 : Int32) < nI 0) = True from tt_3 (by omega)]
    exact lw_796 hN k2 ht hy (Or.inl ⟨rfl, rfl⟩)
  · subst e1
    have k2 : Wl m1 (Ms ++ [M]) w := k2
    have hl := sn_len Ms M
    rw [e2]
    have hno : ¬ nI Ms.length < nI Ms.length := fun h => by
      rw [Int32.lt_iff_toInt_lt] at h
      omega
    rw [if_neg hno]
    have fin : Nx rec x6 t (B_L_law_796 N L xs rec m1 (nI w.length) (nI (Ms.length + 1)) (nI 1) x6 (nI t) (nI y) (nI Ms.length)) := lw_796 hN k2 ht hy (Or.inr ⟨Ms.length, rfl, by omega, by rw [if_pos (by omega), hl]⟩)
    unfold B_L_law_450
    by_cases c9 : d = 9
    · obtain ⟨hnf, n, f, LA, gA, pA, hlang⟩ := h9 c9 M rfl
      have gB : (Ms ++ [M])[Ms.length]? = some M := sn_at Ms M
      have hfin : ∀ m', Wl m' (Ms ++ [M]) w → Nx rec x6 t (B_L_law_504 N L xs rec m' (nI w.length) (nI (Ms.length + 1)) x6 (nI t) (nI y) (nI Ms.length)) := fun m' h' => lw_504 hN ht hy h' hnf
      obtain ⟨nM', fM, LM⟩ := M
      obtain ⟨r, r1, r2, r3⟩ := as_apart hN k2.1 (sn_old gA) gB pA hnf.pl (fun w hw => (hlang w hw).symm)
      obtain ⟨m2, q1, q2, q3⟩ := r3 m1 k2.2.1
      have hW2 := k2.cq q2 (q3 70 (by omega) (by omega))
      subst c9
      simp (disch := omega) only [zi_t, zi_f, bnd_t, zg_in, zx, nI_ltI, nI_leI, nI_eq, nI_add, pk_mul, pk_sub, mup_s, mup_c, mup_j, mrw_c, if_pos, if_neg, zm_1, zm_2, zm_3, zm_4, zm_5, zm_6, zm_7, zm_8, zm_9, zf_0, zf_1, zf_2, zf_3, zf_4, zf_5, zf_6, zf_7, zf_8, zf_9, zf_10, zf_14, zf_15, zf_16, zf_18, zf_19, zf_20, zf_24, zf_30, zf_31, zf_32, zf_33, zf_99, zf_100, zf_160, zf_200, zf_287, zf_288, zf_300, zf_1000, zf_1023, zf_1024, zf_1600, zf_3840, zf_25600, zf_36000, zf_1000000, zf_1000000000, zf_2000000000, zf_11560, za_1, za_2, za_4, za_5, za_6, za_7, za_8, za_9, za_10, za_11, za_12, za_14, za_15, za_22, za_23, za_25, za_26, za_27, za_28, za_29, za_30, za_31, za_32, za_33, za_34, za_35, za_41, za_42, za_43, za_44, za_45, za_46, za_47, za_48, za_49, za_61, za_62, za_63, za_64, za_65, za_70]
      rcases r1 with hr | hr
      · rw [hr] at q1
        have q0 : F_L_on N m1 12 (nI p) (nI Ms.length) (nI 0) (nI 0) (nI 0) = some ((-13 : Int32), m2) := on_e (by rw [ask_12]; exact q1)
        obtain ⟨m3, t1, t2, t3⟩ := r3 m2 q2
        rw [hr] at t1
        have t0 : F_L_on N m2 12 (nI p) (nI Ms.length) (nI 0) (nI 0) (nI 0) = some ((-13 : Int32), m3) := on_e (by rw [ask_12]; exact t1)
        rw [cal_t q0]
        simp (disch := omega) only [zi_t, zi_f, bnd_t, zg_in, zx, nI_ltI, nI_leI, nI_eq, nI_add, pk_mul, pk_sub, mup_s, mup_c, mup_j, mrw_c, if_pos, if_neg, zm_1, zm_2, zm_3, zm_4, zm_5, zm_6, zm_7, zm_8, zm_9, zf_0, zf_1, zf_2, zf_3, zf_4, zf_5, zf_6, zf_7, zf_8, zf_9, zf_10, zf_14, zf_15, zf_16, zf_18, zf_19, zf_20, zf_24, zf_30, zf_31, zf_32, zf_33, zf_99, zf_100, zf_160, zf_200, zf_287, zf_288, zf_300, zf_1000, zf_1023, zf_1024, zf_1600, zf_3840, zf_25600, zf_36000, zf_1000000, zf_1000000000, zf_2000000000, zf_11560, za_1, za_2, za_4, za_5, za_6, za_7, za_8, za_9, za_10, za_11, za_12, za_14, za_15, za_22, za_23, za_25, za_26, za_27, za_28, za_29, za_30, za_31, za_32, za_33, za_34, za_35, za_41, za_42, za_43, za_44, za_45, za_46, za_47, za_48, za_49, za_61, za_62, za_63, za_64, za_65, za_70, tt_5]
        rw [cal_t t0]
        simp (disch := omega) only [zi_t, zi_f, bnd_t, zg_in, zx, nI_ltI, nI_leI, nI_eq, nI_add, pk_mul, pk_sub, mup_s, mup_c, mup_j, mrw_c, if_pos, if_neg, zm_1, zm_2, zm_3, zm_4, zm_5, zm_6, zm_7, zm_8, zm_9, zf_0, zf_1, zf_2, zf_3, zf_4, zf_5, zf_6, zf_7, zf_8, zf_9, zf_10, zf_14, zf_15, zf_16, zf_18, zf_19, zf_20, zf_24, zf_30, zf_31, zf_32, zf_33, zf_99, zf_100, zf_160, zf_200, zf_287, zf_288, zf_300, zf_1000, zf_1023, zf_1024, zf_1600, zf_3840, zf_25600, zf_36000, zf_1000000, zf_1000000000, zf_2000000000, zf_11560, za_1, za_2, za_4, za_5, za_6, za_7, za_8, za_9, za_10, za_11, za_12, za_14, za_15, za_22, za_23, za_25, za_26, za_27, za_28, za_29, za_30, za_31, za_32, za_33, za_34, za_35, za_41, za_42, za_43, za_44, za_45, za_46, za_47, za_48, za_49, za_61, za_62, za_63, za_64, za_65, za_70, tt_6]
        exact hfin m3 (hW2.cq t2 (t3 70 (by omega) (by omega)))
      · rw [hr] at q1
        have q0 : F_L_on N m1 12 (nI p) (nI Ms.length) (nI 0) (nI 0) (nI 0) = some (nM, m2) := on_t (by rw [ask_12]; exact q1)
        rw [cal_t q0]
        simp (disch := omega) only [zi_t, zi_f, bnd_t, zg_in, zx, nI_ltI, nI_leI, nI_eq, nI_add, pk_mul, pk_sub, mup_s, mup_c, mup_j, mrw_c, if_pos, if_neg, zm_1, zm_2, zm_3, zm_4, zm_5, zm_6, zm_7, zm_8, zm_9, zf_0, zf_1, zf_2, zf_3, zf_4, zf_5, zf_6, zf_7, zf_8, zf_9, zf_10, zf_14, zf_15, zf_16, zf_18, zf_19, zf_20, zf_24, zf_30, zf_31, zf_32, zf_33, zf_99, zf_100, zf_160, zf_200, zf_287, zf_288, zf_300, zf_1000, zf_1023, zf_1024, zf_1600, zf_3840, zf_25600, zf_36000, zf_1000000, zf_1000000000, zf_2000000000, zf_11560, za_1, za_2, za_4, za_5, za_6, za_7, za_8, za_9, za_10, za_11, za_12, za_14, za_15, za_22, za_23, za_25, za_26, za_27, za_28, za_29, za_30, za_31, za_32, za_33, za_34, za_35, za_41, za_42, za_43, za_44, za_45, za_46, za_47, za_48, za_49, za_61, za_62, za_63, za_64, za_65, za_70]
        exact hfin m2 hW2
    · simp (disch := omega) only [zi_t, zi_f, bnd_t, zg_in, zx, nI_ltI, nI_leI, nI_eq, nI_add, pk_mul, pk_sub, mup_s, mup_c, mup_j, mrw_c, if_pos, if_neg, zm_1, zm_2, zm_3, zm_4, zm_5, zm_6, zm_7, zm_8, zm_9, zf_0, zf_1, zf_2, zf_3, zf_4, zf_5, zf_6, zf_7, zf_8, zf_9, zf_10, zf_14, zf_15, zf_16, zf_18, zf_19, zf_20, zf_24, zf_30, zf_31, zf_32, zf_33, zf_99, zf_100, zf_160, zf_200, zf_287, zf_288, zf_300, zf_1000, zf_1023, zf_1024, zf_1600, zf_3840, zf_25600, zf_36000, zf_1000000, zf_1000000000, zf_2000000000, zf_11560, za_1, za_2, za_4, za_5, za_6, za_7, za_8, za_9, za_10, za_11, za_12, za_14, za_15, za_22, za_23, za_25, za_26, za_27, za_28, za_29, za_30, za_31, za_32, za_33, za_34, za_35, za_41, za_42, za_43, za_44, za_45, za_46, za_47, za_48, za_49, za_61, za_62, za_63, za_64, za_65, za_70, c9]
      exact fin
theorem lw_d9 (hN : 40000 < N) (ht : t < 1000) {y p q : Nat} (hy : y < 2 ^ 31) (hp : p < Ms.length) (hW : Wl m Ms w) : Nx rec x6 t (B_L_law_159 N L xs rec m (nI w.length) (nI Ms.length) (nI 1) x6 (nI t) (nI y) (nI 9) (nI p) (nI q)) := by
  have v1 := hW.1.1
  obtain ⟨oM, h1, h2, h3⟩ := mk_least (i := p) hN Ms w [] hW.1 hp
  have := lw_450 (L := L) (xs := xs) (rec := rec) (x6 := x6) (d := 9) (p := p) (x12 := nI q) (bit := (q_shr (nI y) (nI 10)) &&& nI 1) hN ht hy (by omega) hW (by omega) (oM := oM) (by rw [ask_9]; exact h3 m hW.2.1) (fun M hM => ⟨(h1 M hM).1, (h1 M hM).2.1, (h1 M hM).2.2.1⟩) (fun _ M hM => (h1 M hM).2.2.2)
  unfold B_L_law_159 B_L_law_401
  simp (disch := omega) only [zi_t, zi_f, bnd_t, zg_in, zx, nI_ltI, nI_leI, nI_eq, nI_add, pk_mul, pk_sub, mup_s, mup_c, mup_j, mrw_c, if_pos, if_neg, zm_1, zm_2, zm_3, zm_4, zm_5, zm_6, zm_7, zm_8, zm_9, zf_0, zf_1, zf_2, zf_3, zf_4, zf_5, zf_6, zf_7, zf_8, zf_9, zf_10, zf_14, zf_15, zf_16, zf_18, zf_19, zf_20, zf_24, zf_30, zf_31, zf_32, zf_33, zf_99, zf_100, zf_160, zf_200, zf_287, zf_288, zf_300, zf_1000, zf_1023, zf_1024, zf_1600, zf_3840, zf_25600, zf_36000, zf_1000000, zf_1000000000, zf_2000000000, zf_11560, za_1, za_2, za_4, za_5, za_6, za_7, za_8, za_9, za_10, za_11, za_12, za_14, za_15, za_22, za_23, za_25, za_26, za_27, za_28, za_29, za_30, za_31, za_32, za_33, za_34, za_35, za_41, za_42, za_43, za_44, za_45, za_46, za_47, za_48, za_49, za_61, za_62, za_63, za_64, za_65, za_70, zl_11]
  exact this
theorem lw_d10 (hN : 40000 < N) (ht : t < 1000) {y p q : Nat} (hy : y < 2 ^ 31) (hp : p < Ms.length) (hq : q < Ms.length) (hW : Wl m Ms w) : Nx rec x6 t (B_L_law_159 N L xs rec m (nI w.length) (nI Ms.length) (nI 1) x6 (nI t) (nI y) (nI 10) (nI p) (nI q)) := by
  have v1 := hW.1.1
  have e10 : (q_shr (nI y) (nI 10)) &&& nI 1 = nI (y / 1024 % 2) := by rw [sh_10 hy, am_1 (by omega)]
  have go : ∀ u : Bool, nI (y / 1024 % 2) = bI u → Nx rec x6 t (B_L_law_159 N L xs rec m (nI w.length) (nI Ms.length) (nI 1) x6 (nI t) (nI y) (nI 10) (nI p) (nI q)) := by
    intro u hu
    obtain ⟨oM, h1, h2⟩ := mk_meet (i := p) (j := q) (u := u) hN Ms w [] hW.1 hp hq
    have := lw_450 (L := L) (xs := xs) (rec := rec) (x6 := x6) (d := 10) (p := p) (x12 := nI q) (bit := (q_shr (nI y) (nI 10)) &&& nI 1) hN ht hy (by omega) hW (by omega) (oM := oM) (by rw [e10, ask_10 hu]; exact h2 m hW.2.1) (fun M hM => ⟨(h1 M hM).1, (h1 M hM).2.1, (h1 M hM).2.2.1⟩) (fun h => by omega)
    unfold B_L_law_159 B_L_law_401
    simp (disch := omega) only [zi_t, zi_f, bnd_t, zg_in, zx, nI_ltI, nI_leI, nI_eq, nI_add, pk_mul, pk_sub, mup_s, mup_c, mup_j, mrw_c, if_pos, if_neg, zm_1, zm_2, zm_3, zm_4, zm_5, zm_6, zm_7, zm_8, zm_9, zf_0, zf_1, zf_2, zf_3, zf_4, zf_5, zf_6, zf_7, zf_8, zf_9, zf_10, zf_14, zf_15, zf_16, zf_18, zf_19, zf_20, zf_24, zf_30, zf_31, zf_32, zf_33, zf_99, zf_100, zf_160, zf_200, zf_287, zf_288, zf_300, zf_1000, zf_1023, zf_1024, zf_1600, zf_3840, zf_25600, zf_36000, zf_1000000, zf_1000000000, zf_2000000000, zf_11560, za_1, za_2, za_4, za_5, za_6, za_7, za_8, za_9, za_10, za_11, za_12, za_14, za_15, za_22, za_23, za_25, za_26, za_27, za_28, za_29, za_30, za_31, za_32, za_33, za_34, za_35, za_41, za_42, za_43, za_44, za_45, za_46, za_47, za_48, za_49, za_61, za_62, za_63, za_64, za_65, za_70, zl_11]
    exact this
  have : y / 1024 % 2 = 0 ∨ y / 1024 % 2 = 1 := by omega
  rcases this with e | e
  · exact go false (by rw [e]; rfl)
  · exact go true (by rw [e]; rfl)
end TURN3
