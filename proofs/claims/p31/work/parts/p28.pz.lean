
/-! a turn of the law: rules, and the whole law -/
section TURN4
variable {N L : Nat} {xs : Nat → Int32} {rec : Mem → Int32 → Int32 → Int32 → Int32 → Int32 → Option (Int32 × Mem)} {x6 : Int32} {t : Nat} {m : Mem} {Ms : List Ma} {w : List Nat}
theorem lw_740 (hN : 40000 < N) (ht : t < 1000) {y f tt : Nat} {l r : Option Nat} {M : Ma} (hy : y < 2 ^ 31) (hW : Wl m (Ms ++ [M]) w) (hf : f < 8) (htt : tt < 9) (hl : anOK l) (hr : anOK r) (hR : RuM f tt l r M) : Nx rec x6 t (L_L_law_740 N L xs rec N m (nI w.length) (nI Ms.length) (nI 1) x6 (nI t) (nI y) (nI Ms.length) (nI f) (nI tt) (an l) (an r) (nI 0)) := by
  obtain ⟨hV, hC, hw, hM⟩ := id hW
  have hlen := sn_len Ms M
  have v1 := hV.1
  have v3 := hV.2.2.1
  obtain ⟨n, fM, LM⟩ := M
  obtain ⟨A, β, ck, l1, l2, l3, l4, l5⟩ := as_look (u := false) hV (sn_at Ms (n, fM, LM))
  have hk : LkA N (Ms ++ [(n, fM, LM)]) w [] Ms.length false A β ck := fun m hm => l5 N m hN hm
  obtain ⟨hpos, hA0⟩ := ru_look (M := (n, fM, LM)) hf htt hV.2.2.2.1 hR l1
  have hA20 := l1.1
  refine loopF (fun g (m : Mem) k => L_L_law_740 N L xs rec g m (nI w.length) (nI Ms.length) (nI 1) x6 (nI t) (nI y) (nI Ms.length) (nI f) (nI tt) (an l) (an r) (nI k)) (w.length + 1) (fun _ m' => Wl m' (Ms ++ [(n, fM, LM)]) w) (Nx rec x6 t) ?_ ?_ N 0 m (Nat.zero_le _) hW (by omega)
  · rintro g k m1 hk1 h1
    obtain ⟨ma, p1, p2, p3⟩ := lk_at hk h1.2.1 hpos hA20 (p := k) (by omega)
    rw [hA0 k] at p1
    have p1 : F_X7_answer N m1 (nI Ms.length) (nI 0) (nI 0) (nI k) = some (.inl (nI (rdA (rdG w f tt l r) k w.length 0)), ma) := p1
    have q1 := as_ruled (N := N) (p := k) hN hV p2 hf htt hl hr (by omega)
    refine Or.inl ⟨ma, h1.cq p2 (p3 70 (by omega)), ?_⟩
    show S_L_law_740 N L xs rec (L_L_law_740 N L xs rec g) m1 (nI w.length) (nI Ms.length) (nI 1) x6 (nI t) (nI y) (nI Ms.length) (nI f) (nI tt) (an l) (an r) (nI k) = _
    unfold S_L_law_740 B_L_law_788
    simp (disch := omega) only [zi_t, zi_f, bnd_t, zg_in, zx, nI_ltI, nI_leI, nI_eq, nI_add, pk_mul, pk_sub, mup_s, mup_c, mup_j, mrw_c, if_pos, if_neg, zm_1, zm_2, zm_3, zm_4, zm_5, zm_6, zm_7, zm_8, zm_9, zf_0, zf_1, zf_2, zf_3, zf_4, zf_5, zf_6, zf_7, zf_8, zf_9, zf_10, zf_14, zf_15, zf_16, zf_18, zf_19, zf_20, zf_24, zf_30, zf_31, zf_32, zf_33, zf_99, zf_100, zf_160, zf_200, zf_287, zf_288, zf_300, zf_1000, zf_1023, zf_1024, zf_1600, zf_3840, zf_25600, zf_36000, zf_1000000, zf_1000000000, zf_2000000000, zf_11560, za_1, za_2, za_4, za_5, za_6, za_7, za_8, za_9, za_10, za_11, za_12, za_14, za_15, za_22, za_23, za_25, za_26, za_27, za_28, za_29, za_30, za_31, za_32, za_33, za_34, za_35, za_41, za_42, za_43, za_44, za_45, za_46, za_47, za_48, za_49, za_61, za_62, za_63, za_64, za_65, za_70]
    rw [clL_t p1, clL_t q1]
    rw [if_pos rfl]
  · rintro g m1 h1
    have := lw_796 (L := L) (xs := xs) (rec := rec) (x6 := x6) hN h1 ht (y := y) (k := Ms.length) (x13 := nI Ms.length) hy (Or.inr ⟨Ms.length, rfl, by omega, by rw [if_neg (Nat.lt_irrefl _), hlen]⟩)
    show Nx rec x6 t (S_L_law_740 N L xs rec (L_L_law_740 N L xs rec g) m1 (nI w.length) (nI Ms.length) (nI 1) x6 (nI t) (nI y) (nI Ms.length) (nI f) (nI tt) (an l) (an r) (nI (w.length + 1)))
    unfold S_L_law_740
    simp (disch := omega) only [zi_t, zi_f, bnd_t, zg_in, zx, nI_ltI, nI_leI, nI_eq, nI_add, pk_mul, pk_sub, mup_s, mup_c, mup_j, mrw_c, if_pos, if_neg, zm_1, zm_2, zm_3, zm_4, zm_5, zm_6, zm_7, zm_8, zm_9, zf_0, zf_1, zf_2, zf_3, zf_4, zf_5, zf_6, zf_7, zf_8, zf_9, zf_10, zf_14, zf_15, zf_16, zf_18, zf_19, zf_20, zf_24, zf_30, zf_31, zf_32, zf_33, zf_99, zf_100, zf_160, zf_200, zf_287, zf_288, zf_300, zf_1000, zf_1023, zf_1024, zf_1600, zf_3840, zf_25600, zf_36000, zf_1000000, zf_1000000000, zf_2000000000, zf_11560, za_1, za_2, za_4, za_5, za_6, za_7, za_8, za_9, za_10, za_11, za_12, za_14, za_15, za_22, za_23, za_25, za_26, za_27, za_28, za_29, za_30, za_31, za_32, za_33, za_34, za_35, za_41, za_42, za_43, za_44, za_45, za_46, za_47, za_48, za_49, za_61, za_62, za_63, za_64, za_65, za_70]
    exact this
theorem an_sub {a : Nat} (ha : a < 4) : nI a - nI 1 = an (if a = 0 then none else some (a - 1)) ∧ anOK (if a = 0 then none else some (a - 1)) := by
  have : a = 0 ∨ a = 1 ∨ a = 2 ∨ a = 3 := by omega
  rcases this with rfl | rfl | rfl | rfl
  · exact ⟨by decide, fun b hb => (by cases hb)⟩
  · exact ⟨by decide, fun b hb => by cases hb; omega⟩
  · exact ⟨by decide, fun b hb => by cases hb; omega⟩
  · exact ⟨by decide, fun b hb => by cases hb; omega⟩
theorem an_neg {o : Option Nat} (h : anOK o) : (an o < nI 0) = (o = none) := by
  cases o with
  | none => exact propext ⟨fun _ => rfl, fun _ => by decide⟩
  | some a =>
    have := h a rfl
    refine propext ⟨fun h => ?_, fun h => (by cases h)⟩
    have h : nI a < nI 0 := h
    rw [Int32.lt_iff_toInt_lt, nI_toInt (by omega), nI_toInt (by omega)] at h
    omega
theorem lw_647 (hN : 40000 < N) (ht : t < 1000) {y f tt : Nat} (hy : y < 2 ^ 31) (hf : f < 3) (htt : tt < 9) (hW : Wl m Ms w) : Nx rec x6 t (B_L_law_647 N L xs rec m (nI w.length) (nI Ms.length) x6 (nI t) (nI y) (nI f) (nI tt)) := by
  have v1 := hW.1.1
  have e5 : q_rem (q_shr (nI y) (nI 5)) (nI 4) = nI (y / 32 % 4) := by rw [sh_5 hy, rm_n (by omega) (by omega) (by omega)]
  have e7 : q_rem (q_shr (nI y) (nI 7)) (nI 4) = nI (y / 128 % 4) := by rw [sh_7 hy, rm_n (by omega) (by omega) (by omega)]
  obtain ⟨l1, l2⟩ := an_sub (a := y / 32 % 4) (Nat.mod_lt _ (by omega))
  obtain ⟨r1, r2⟩ := an_sub (a := y / 128 % 4) (Nat.mod_lt _ (by omega))
  obtain ⟨l, hl⟩ : ∃ l, l = if y / 32 % 4 = 0 then none else some (y / 32 % 4 - 1) := ⟨_, rfl⟩
  obtain ⟨r, hr⟩ : ∃ r, r = if y / 128 % 4 = 0 then none else some (y / 128 % 4 - 1) := ⟨_, rfl⟩
  rw [← hl] at l1 l2
  rw [← hr] at r1 r2
  obtain ⟨oM, h1, h2, h3⟩ := mk_rule (f := f) (t := tt) hN Ms w [] hW.1 (by omega) htt l2 r2
  obtain ⟨m1, told, k1, k2, k3⟩ := on_mk (x1 := 11) (x2 := nI f) (x3 := nI tt) (x4 := an l) (x5 := an r) (x6 := nI 0) (N := N) hW (oM := oM) (by rw [ask_11]; exact h2 m hW.2.1) (fun M hM => ⟨(h1 M hM).1, (h1 M hM).2.1, (h1 M hM).2.2.1⟩)
  obtain ⟨N', eN⟩ : ∃ N', N = N' + 1 := ⟨N - 1, by omega⟩
  unfold B_L_law_647
  simp (disch := omega) only [zi_t, zi_f, bnd_t, zg_in, zx, nI_ltI, nI_leI, nI_eq, nI_add, pk_mul, pk_sub, mup_s, mup_c, mup_j, mrw_c, if_pos, if_neg, zm_1, zm_2, zm_3, zm_4, zm_5, zm_6, zm_7, zm_8, zm_9, zf_0, zf_1, zf_2, zf_3, zf_4, zf_5, zf_6, zf_7, zf_8, zf_9, zf_10, zf_14, zf_15, zf_16, zf_18, zf_19, zf_20, zf_24, zf_30, zf_31, zf_32, zf_33, zf_99, zf_100, zf_160, zf_200, zf_287, zf_288, zf_300, zf_1000, zf_1023, zf_1024, zf_1600, zf_3840, zf_25600, zf_36000, zf_1000000, zf_1000000000, zf_2000000000, zf_11560, za_1, za_2, za_4, za_5, za_6, za_7, za_8, za_9, za_10, za_11, za_12, za_14, za_15, za_22, za_23, za_25, za_26, za_27, za_28, za_29, za_30, za_31, za_32, za_33, za_34, za_35, za_41, za_42, za_43, za_44, za_45, za_46, za_47, za_48, za_49, za_61, za_62, za_63, za_64, za_65, za_70]
  rw [e5, e7, l1, r1, cal_t k1]
  rcases k3 with ⟨e1, e2⟩ | ⟨M, e1, e2, e3⟩
  · subst e2
    have k2 : Wl m1 (Ms ++ []) w := k2
    rw [List.append_nil] at k2
    have fin := lw_796 (L := L) (xs := xs) (rec := rec) (x6 := x6) hN k2 ht (y := y) (k := Ms.length) (x13 := (-13 : Int32)) hy (Or.inl ⟨rfl, rfl⟩)
    have go : Nx rec x6 t (B_L_law_730 N L xs rec m1 (nI w.length) (nI Ms.length) x6 (nI t) (nI y) (-13 : Int32) (nI f) (nI tt) (an l) (an r)) := by
      have v3 := hW.1.2.2.1
      unfold B_L_law_730 B_L_law_735
      obtain ⟨N', rfl⟩ : ∃ N', N = N' + 1 := ⟨N - 1, by omega⟩
      show Nx rec x6 t (S_L_law_740 (N' + 1) L xs rec (L_L_law_740 (N' + 1) L xs rec N') m1 (nI w.length) (nI Ms.length) (1 : Int32) x6 (nI t) (nI y) (-13 : Int32) (nI f) (nI tt) (an l) (an r) (nI 0))
      unfold S_L_law_740
      simp (disch := omega) only [zi_t, zi_f, bnd_t, zg_in, zx, nI_ltI, nI_leI, nI_eq, nI_add, pk_mul, pk_sub, mup_s, mup_c, mup_j, mrw_c, if_pos, if_neg, zm_1, zm_2, zm_3, zm_4, zm_5, zm_6, zm_7, zm_8, zm_9, zf_0, zf_1, zf_2, zf_3, zf_4, zf_5, zf_6, zf_7, zf_8, zf_9, zf_10, zf_14, zf_15, zf_16, zf_18, zf_19, zf_20, zf_24, zf_30, zf_31, zf_32, zf_33, zf_99, zf_100, zf_160, zf_200, zf_287, zf_288, zf_300, zf_1000, zf_1023, zf_1024, zf_1600, zf_3840, zf_25600, zf_36000, zf_1000000, zf_1000000000, zf_2000000000, zf_11560, za_1, za_2, za_4, za_5, za_6, za_7, za_8, za_9, za_10, za_11, za_12, za_14, za_15, za_22, za_23, za_25, za_26, za_27, za_28, za_29, za_30, za_31, za_32, za_33, za_34, za_35, za_41, za_42, za_43, za_44, za_45, za_46, za_47, za_48, za_49, za_61, za_62, za_63, za_64, za_65, za_70, show ((-13 : Int32) < nI 0) = True from tt_3 (by omega)]
      exact fin
    rw [e1]
    have hn0 : (nI 0 ≤ (-13 : Int32)) = False := tt_4 (by omega)
    rcases h3 rfl with h24 | ⟨ht8, hlp, hrr⟩
    · simp (disch := omega) only [zi_t, zi_f, bnd_t, zg_in, zx, nI_ltI, nI_leI, nI_eq, nI_add, pk_mul, pk_sub, mup_s, mup_c, mup_j, mrw_c, if_pos, if_neg, zm_1, zm_2, zm_3, zm_4, zm_5, zm_6, zm_7, zm_8, zm_9, zf_0, zf_1, zf_2, zf_3, zf_4, zf_5, zf_6, zf_7, zf_8, zf_9, zf_10, zf_14, zf_15, zf_16, zf_18, zf_19, zf_20, zf_24, zf_30, zf_31, zf_32, zf_33, zf_99, zf_100, zf_160, zf_200, zf_287, zf_288, zf_300, zf_1000, zf_1023, zf_1024, zf_1600, zf_3840, zf_25600, zf_36000, zf_1000000, zf_1000000000, zf_2000000000, zf_11560, za_1, za_2, za_4, za_5, za_6, za_7, za_8, za_9, za_10, za_11, za_12, za_14, za_15, za_22, za_23, za_25, za_26, za_27, za_28, za_29, za_30, za_31, za_32, za_33, za_34, za_35, za_41, za_42, za_43, za_44, za_45, za_46, za_47, za_48, za_49, za_61, za_62, za_63, za_64, za_65, za_70, hn0, h24]
      rw [h24] at go
      exact go
    · have hl' : (an l < nI 0) = (l = none) := an_neg l2
      have hr' : (an r < nI 0) = (r = none) := an_neg r2
      have hlf : (an l = nI f) = (l = some f) := an_eq' l2 (by omega)
      have hrf : (an r = nI f) = (r = some f) := an_eq' r2 (by omega)
      have g718 : Nx rec x6 t (B_L_law_718 N L xs rec m1 (nI w.length) (nI Ms.length) x6 (nI t) (nI y) (-13 : Int32) (nI f) (nI tt) (an l) (an r)) := by
        unfold B_L_law_718
        by_cases c : r = none
        · have h1 : (an r < nI 0) = True := by rw [hr']; exact eq_true c
          simp (disch := omega) only [zi_t, zi_f, bnd_t, zg_in, zx, nI_ltI, nI_leI, nI_eq, nI_add, pk_mul, pk_sub, mup_s, mup_c, mup_j, mrw_c, if_pos, if_neg, zm_1, zm_2, zm_3, zm_4, zm_5, zm_6, zm_7, zm_8, zm_9, zf_0, zf_1, zf_2, zf_3, zf_4, zf_5, zf_6, zf_7, zf_8, zf_9, zf_10, zf_14, zf_15, zf_16, zf_18, zf_19, zf_20, zf_24, zf_30, zf_31, zf_32, zf_33, zf_99, zf_100, zf_160, zf_200, zf_287, zf_288, zf_300, zf_1000, zf_1023, zf_1024, zf_1600, zf_3840, zf_25600, zf_36000, zf_1000000, zf_1000000000, zf_2000000000, zf_11560, za_1, za_2, za_4, za_5, za_6, za_7, za_8, za_9, za_10, za_11, za_12, za_14, za_15, za_22, za_23, za_25, za_26, za_27, za_28, za_29, za_30, za_31, za_32, za_33, za_34, za_35, za_41, za_42, za_43, za_44, za_45, za_46, za_47, za_48, za_49, za_61, za_62, za_63, za_64, za_65, za_70, h1]
          exact go
        · have c2 : r = some f := hrr.resolve_left c
          have h1 : (an r < nI 0) = False := by rw [hr']; exact eq_false c
          have h2 : (an r = nI f) = True := by rw [hrf]; exact eq_true c2
          simp (disch := omega) only [zi_t, zi_f, bnd_t, zg_in, zx, nI_ltI, nI_leI, nI_eq, nI_add, pk_mul, pk_sub, mup_s, mup_c, mup_j, mrw_c, if_pos, if_neg, zm_1, zm_2, zm_3, zm_4, zm_5, zm_6, zm_7, zm_8, zm_9, zf_0, zf_1, zf_2, zf_3, zf_4, zf_5, zf_6, zf_7, zf_8, zf_9, zf_10, zf_14, zf_15, zf_16, zf_18, zf_19, zf_20, zf_24, zf_30, zf_31, zf_32, zf_33, zf_99, zf_100, zf_160, zf_200, zf_287, zf_288, zf_300, zf_1000, zf_1023, zf_1024, zf_1600, zf_3840, zf_25600, zf_36000, zf_1000000, zf_1000000000, zf_2000000000, zf_11560, za_1, za_2, za_4, za_5, za_6, za_7, za_8, za_9, za_10, za_11, za_12, za_14, za_15, za_22, za_23, za_25, za_26, za_27, za_28, za_29, za_30, za_31, za_32, za_33, za_34, za_35, za_41, za_42, za_43, za_44, za_45, za_46, za_47, za_48, za_49, za_61, za_62, za_63, za_64, za_65, za_70, h1, h2]
          exact go
      by_cases c24 : Ms.length = 24
      · simp (disch := omega) only [zi_t, zi_f, bnd_t, zg_in, zx, nI_ltI, nI_leI, nI_eq, nI_add, pk_mul, pk_sub, mup_s, mup_c, mup_j, mrw_c, if_pos, if_neg, zm_1, zm_2, zm_3, zm_4, zm_5, zm_6, zm_7, zm_8, zm_9, zf_0, zf_1, zf_2, zf_3, zf_4, zf_5, zf_6, zf_7, zf_8, zf_9, zf_10, zf_14, zf_15, zf_16, zf_18, zf_19, zf_20, zf_24, zf_30, zf_31, zf_32, zf_33, zf_99, zf_100, zf_160, zf_200, zf_287, zf_288, zf_300, zf_1000, zf_1023, zf_1024, zf_1600, zf_3840, zf_25600, zf_36000, zf_1000000, zf_1000000000, zf_2000000000, zf_11560, za_1, za_2, za_4, za_5, za_6, za_7, za_8, za_9, za_10, za_11, za_12, za_14, za_15, za_22, za_23, za_25, za_26, za_27, za_28, za_29, za_30, za_31, za_32, za_33, za_34, za_35, za_41, za_42, za_43, za_44, za_45, za_46, za_47, za_48, za_49, za_61, za_62, za_63, za_64, za_65, za_70, hn0, c24]
        rw [c24] at go
        exact go
      · simp (disch := omega) only [zi_t, zi_f, bnd_t, zg_in, zx, nI_ltI, nI_leI, nI_eq, nI_add, pk_mul, pk_sub, mup_s, mup_c, mup_j, mrw_c, if_pos, if_neg, zm_1, zm_2, zm_3, zm_4, zm_5, zm_6, zm_7, zm_8, zm_9, zf_0, zf_1, zf_2, zf_3, zf_4, zf_5, zf_6, zf_7, zf_8, zf_9, zf_10, zf_14, zf_15, zf_16, zf_18, zf_19, zf_20, zf_24, zf_30, zf_31, zf_32, zf_33, zf_99, zf_100, zf_160, zf_200, zf_287, zf_288, zf_300, zf_1000, zf_1023, zf_1024, zf_1600, zf_3840, zf_25600, zf_36000, zf_1000000, zf_1000000000, zf_2000000000, zf_11560, za_1, za_2, za_4, za_5, za_6, za_7, za_8, za_9, za_10, za_11, za_12, za_14, za_15, za_22, za_23, za_25, za_26, za_27, za_28, za_29, za_30, za_31, za_32, za_33, za_34, za_35, za_41, za_42, za_43, za_44, za_45, za_46, za_47, za_48, za_49, za_61, za_62, za_63, za_64, za_65, za_70, hn0, c24, ht8]
        rw [ht8] at g718
        unfold lpF at hlp
        rw [Bool.or_eq_true, decide_eq_true_iff, decide_eq_true_iff] at hlp
        by_cases c : l = none
        · have h1 : (an l < nI 0) = True := by rw [hl']; exact eq_true c
          simp (disch := omega) only [zi_t, zi_f, bnd_t, zg_in, zx, nI_ltI, nI_leI, nI_eq, nI_add, pk_mul, pk_sub, mup_s, mup_c, mup_j, mrw_c, if_pos, if_neg, zm_1, zm_2, zm_3, zm_4, zm_5, zm_6, zm_7, zm_8, zm_9, zf_0, zf_1, zf_2, zf_3, zf_4, zf_5, zf_6, zf_7, zf_8, zf_9, zf_10, zf_14, zf_15, zf_16, zf_18, zf_19, zf_20, zf_24, zf_30, zf_31, zf_32, zf_33, zf_99, zf_100, zf_160, zf_200, zf_287, zf_288, zf_300, zf_1000, zf_1023, zf_1024, zf_1600, zf_3840, zf_25600, zf_36000, zf_1000000, zf_1000000000, zf_2000000000, zf_11560, za_1, za_2, za_4, za_5, za_6, za_7, za_8, za_9, za_10, za_11, za_12, za_14, za_15, za_22, za_23, za_25, za_26, za_27, za_28, za_29, za_30, za_31, za_32, za_33, za_34, za_35, za_41, za_42, za_43, za_44, za_45, za_46, za_47, za_48, za_49, za_61, za_62, za_63, za_64, za_65, za_70, h1]
          exact g718
        · have c2 : l = some f := hlp.resolve_left c
          have h1 : (an l < nI 0) = False := by rw [hl']; exact eq_false c
          have h2 : (an l = nI f) = True := by rw [hlf]; exact eq_true c2
          simp (disch := omega) only [zi_t, zi_f, bnd_t, zg_in, zx, nI_ltI, nI_leI, nI_eq, nI_add, pk_mul, pk_sub, mup_s, mup_c, mup_j, mrw_c, if_pos, if_neg, zm_1, zm_2, zm_3, zm_4, zm_5, zm_6, zm_7, zm_8, zm_9, zf_0, zf_1, zf_2, zf_3, zf_4, zf_5, zf_6, zf_7, zf_8, zf_9, zf_10, zf_14, zf_15, zf_16, zf_18, zf_19, zf_20, zf_24, zf_30, zf_31, zf_32, zf_33, zf_99, zf_100, zf_160, zf_200, zf_287, zf_288, zf_300, zf_1000, zf_1023, zf_1024, zf_1600, zf_3840, zf_25600, zf_36000, zf_1000000, zf_1000000000, zf_2000000000, zf_11560, za_1, za_2, za_4, za_5, za_6, za_7, za_8, za_9, za_10, za_11, za_12, za_14, za_15, za_22, za_23, za_25, za_26, za_27, za_28, za_29, za_30, za_31, za_32, za_33, za_34, za_35, za_41, za_42, za_43, za_44, za_45, za_46, za_47, za_48, za_49, za_61, za_62, za_63, za_64, za_65, za_70, h1, h2]
          exact g718
  · subst e1
    have k2 : Wl m1 (Ms ++ [M]) w := k2
    have hlen := sn_len Ms M
    rw [e2]
    simp (disch := omega) only [zi_t, zi_f, bnd_t, zg_in, zx, nI_ltI, nI_leI, nI_eq, nI_add, pk_mul, pk_sub, mup_s, mup_c, mup_j, mrw_c, if_pos, if_neg, zm_1, zm_2, zm_3, zm_4, zm_5, zm_6, zm_7, zm_8, zm_9, zf_0, zf_1, zf_2, zf_3, zf_4, zf_5, zf_6, zf_7, zf_8, zf_9, zf_10, zf_14, zf_15, zf_16, zf_18, zf_19, zf_20, zf_24, zf_30, zf_31, zf_32, zf_33, zf_99, zf_100, zf_160, zf_200, zf_287, zf_288, zf_300, zf_1000, zf_1023, zf_1024, zf_1600, zf_3840, zf_25600, zf_36000, zf_1000000, zf_1000000000, zf_2000000000, zf_11560, za_1, za_2, za_4, za_5, za_6, za_7, za_8, za_9, za_10, za_11, za_12, za_14, za_15, za_22, za_23, za_25, za_26, za_27, za_28, za_29, za_30, za_31, za_32, za_33, za_34, za_35, za_41, za_42, za_43, za_44, za_45, za_46, za_47, za_48, za_49, za_61, za_62, za_63, za_64, za_65, za_70]
    unfold B_L_law_730 B_L_law_735
    exact lw_740 hN ht hy k2 (by omega) htt l2 r2 (h1 M rfl).2.2.2
/-- deeds from 9 where nothing is made, and deed 11 -/
theorem lw_d11 (hN : 40000 < N) (ht : t < 1000) {y d : Nat} {x11 s0 : Int32} (hy : y < 2 ^ 31) (hd1 : 3 ≤ d) (hd2 : d < 16) (h : 11 ≤ d ∨ Ms.length = 0) (hW : Wl m Ms w) : Nx rec x6 t (B_L_law_159 N L xs rec m (nI w.length) (nI Ms.length) (nI 1) x6 (nI t) (nI y) (nI d) x11 s0) := by
  have v1 := hW.1.1
  have g611 : Nx rec x6 t (B_L_law_611 N L xs rec m (nI w.length) (nI Ms.length) (nI 1) x6 (nI t) (nI y) (nI d) (-13 : Int32)) := by
    unfold B_L_law_611
    by_cases c : d = 11
    · have e1 : q_rem (q_shr (nI y) (nI 1)) (nI 3) = nI (y / 2 % 3) := by rw [sh_1 hy, rm_n (by omega) (by omega) (by omega)]
      have e3 : q_rem (q_shr (nI y) (nI 3)) (nI 4) = nI (y / 8 % 4) := by rw [sh_3 hy, rm_n (by omega) (by omega) (by omega)]
      have hlt := Nat.mod_lt (y / 2) (show 3 > 0 by omega)
      simp (disch := omega) only [zi_t, zi_f, bnd_t, zg_in, zx, nI_ltI, nI_leI, nI_eq, nI_add, pk_mul, pk_sub, mup_s, mup_c, mup_j, mrw_c, if_pos, if_neg, zm_1, zm_2, zm_3, zm_4, zm_5, zm_6, zm_7, zm_8, zm_9, zf_0, zf_1, zf_2, zf_3, zf_4, zf_5, zf_6, zf_7, zf_8, zf_9, zf_10, zf_14, zf_15, zf_16, zf_18, zf_19, zf_20, zf_24, zf_30, zf_31, zf_32, zf_33, zf_99, zf_100, zf_160, zf_200, zf_287, zf_288, zf_300, zf_1000, zf_1023, zf_1024, zf_1600, zf_3840, zf_25600, zf_36000, zf_1000000, zf_1000000000, zf_2000000000, zf_11560, za_1, za_2, za_4, za_5, za_6, za_7, za_8, za_9, za_10, za_11, za_12, za_14, za_15, za_22, za_23, za_25, za_26, za_27, za_28, za_29, za_30, za_31, za_32, za_33, za_34, za_35, za_41, za_42, za_43, za_44, za_45, za_46, za_47, za_48, za_49, za_61, za_62, za_63, za_64, za_65, za_70, zl_11, c, e1, e3]
      by_cases c3 : y / 8 % 4 = 3
      · simp (disch := omega) only [zi_t, zi_f, bnd_t, zg_in, zx, nI_ltI, nI_leI, nI_eq, nI_add, pk_mul, pk_sub, mup_s, mup_c, mup_j, mrw_c, if_pos, if_neg, zm_1, zm_2, zm_3, zm_4, zm_5, zm_6, zm_7, zm_8, zm_9, zf_0, zf_1, zf_2, zf_3, zf_4, zf_5, zf_6, zf_7, zf_8, zf_9, zf_10, zf_14, zf_15, zf_16, zf_18, zf_19, zf_20, zf_24, zf_30, zf_31, zf_32, zf_33, zf_99, zf_100, zf_160, zf_200, zf_287, zf_288, zf_300, zf_1000, zf_1023, zf_1024, zf_1600, zf_3840, zf_25600, zf_36000, zf_1000000, zf_1000000000, zf_2000000000, zf_11560, za_1, za_2, za_4, za_5, za_6, za_7, za_8, za_9, za_10, za_11, za_12, za_14, za_15, za_22, za_23, za_25, za_26, za_27, za_28, za_29, za_30, za_31, za_32, za_33, za_34, za_35, za_41, za_42, za_43, za_44, za_45, za_46, za_47, za_48, za_49, za_61, za_62, za_63, za_64, za_65, za_70, c3]
        exact lw_647 hN ht hy hlt (by omega) hW
      · simp (disch := omega) only [zi_t, zi_f, bnd_t, zg_in, zx, nI_ltI, nI_leI, nI_eq, nI_add, pk_mul, pk_sub, mup_s, mup_c, mup_j, mrw_c, if_pos, if_neg, zm_1, zm_2, zm_3, zm_4, zm_5, zm_6, zm_7, zm_8, zm_9, zf_0, zf_1, zf_2, zf_3, zf_4, zf_5, zf_6, zf_7, zf_8, zf_9, zf_10, zf_14, zf_15, zf_16, zf_18, zf_19, zf_20, zf_24, zf_30, zf_31, zf_32, zf_33, zf_99, zf_100, zf_160, zf_200, zf_287, zf_288, zf_300, zf_1000, zf_1023, zf_1024, zf_1600, zf_3840, zf_25600, zf_36000, zf_1000000, zf_1000000000, zf_2000000000, zf_11560, za_1, za_2, za_4, za_5, za_6, za_7, za_8, za_9, za_10, za_11, za_12, za_14, za_15, za_22, za_23, za_25, za_26, za_27, za_28, za_29, za_30, za_31, za_32, za_33, za_34, za_35, za_41, za_42, za_43, za_44, za_45, za_46, za_47, za_48, za_49, za_61, za_62, za_63, za_64, za_65, za_70, c3]
        exact lw_647 hN ht hy hlt (by omega) hW
    · simp (disch := omega) only [zi_t, zi_f, bnd_t, zg_in, zx, nI_ltI, nI_leI, nI_eq, nI_add, pk_mul, pk_sub, mup_s, mup_c, mup_j, mrw_c, if_pos, if_neg, zm_1, zm_2, zm_3, zm_4, zm_5, zm_6, zm_7, zm_8, zm_9, zf_0, zf_1, zf_2, zf_3, zf_4, zf_5, zf_6, zf_7, zf_8, zf_9, zf_10, zf_14, zf_15, zf_16, zf_18, zf_19, zf_20, zf_24, zf_30, zf_31, zf_32, zf_33, zf_99, zf_100, zf_160, zf_200, zf_287, zf_288, zf_300, zf_1000, zf_1023, zf_1024, zf_1600, zf_3840, zf_25600, zf_36000, zf_1000000, zf_1000000000, zf_2000000000, zf_11560, za_1, za_2, za_4, za_5, za_6, za_7, za_8, za_9, za_10, za_11, za_12, za_14, za_15, za_22, za_23, za_25, za_26, za_27, za_28, za_29, za_30, za_31, za_32, za_33, za_34, za_35, za_41, za_42, za_43, za_44, za_45, za_46, za_47, za_48, za_49, za_61, za_62, za_63, za_64, za_65, za_70, zl_11, c]
      exact lw_796 hN hW ht hy (Or.inl ⟨rfl, rfl⟩)
  have g401 : Nx rec x6 t (B_L_law_401 N L xs rec m (nI w.length) (nI Ms.length) (nI 1) x6 (nI t) (nI y) (nI d) x11 s0 (-13 : Int32)) := by
    unfold B_L_law_401
    by_cases c : 11 ≤ d
    · simp (disch := omega) only [zi_t, zi_f, bnd_t, zg_in, zx, nI_ltI, nI_leI, nI_eq, nI_add, pk_mul, pk_sub, mup_s, mup_c, mup_j, mrw_c, if_pos, if_neg, zm_1, zm_2, zm_3, zm_4, zm_5, zm_6, zm_7, zm_8, zm_9, zf_0, zf_1, zf_2, zf_3, zf_4, zf_5, zf_6, zf_7, zf_8, zf_9, zf_10, zf_14, zf_15, zf_16, zf_18, zf_19, zf_20, zf_24, zf_30, zf_31, zf_32, zf_33, zf_99, zf_100, zf_160, zf_200, zf_287, zf_288, zf_300, zf_1000, zf_1023, zf_1024, zf_1600, zf_3840, zf_25600, zf_36000, zf_1000000, zf_1000000000, zf_2000000000, zf_11560, za_1, za_2, za_4, za_5, za_6, za_7, za_8, za_9, za_10, za_11, za_12, za_14, za_15, za_22, za_23, za_25, za_26, za_27, za_28, za_29, za_30, za_31, za_32, za_33, za_34, za_35, za_41, za_42, za_43, za_44, za_45, za_46, za_47, za_48, za_49, za_61, za_62, za_63, za_64, za_65, za_70, zl_11]
      exact g611
    · have h0 : Ms.length = 0 := by omega
      simp (disch := omega) only [zi_t, zi_f, bnd_t, zg_in, zx, nI_ltI, nI_leI, nI_eq, nI_add, pk_mul, pk_sub, mup_s, mup_c, mup_j, mrw_c, if_pos, if_neg, zm_1, zm_2, zm_3, zm_4, zm_5, zm_6, zm_7, zm_8, zm_9, zf_0, zf_1, zf_2, zf_3, zf_4, zf_5, zf_6, zf_7, zf_8, zf_9, zf_10, zf_14, zf_15, zf_16, zf_18, zf_19, zf_20, zf_24, zf_30, zf_31, zf_32, zf_33, zf_99, zf_100, zf_160, zf_200, zf_287, zf_288, zf_300, zf_1000, zf_1023, zf_1024, zf_1600, zf_3840, zf_25600, zf_36000, zf_1000000, zf_1000000000, zf_2000000000, zf_11560, za_1, za_2, za_4, za_5, za_6, za_7, za_8, za_9, za_10, za_11, za_12, za_14, za_15, za_22, za_23, za_25, za_26, za_27, za_28, za_29, za_30, za_31, za_32, za_33, za_34, za_35, za_41, za_42, za_43, za_44, za_45, za_46, za_47, za_48, za_49, za_61, za_62, za_63, za_64, za_65, za_70, zl_11, h0]
      rw [h0] at g611
      exact g611
  unfold B_L_law_159
  by_cases c : 9 ≤ d
  · simp (disch := omega) only [zi_t, zi_f, bnd_t, zg_in, zx, nI_ltI, nI_leI, nI_eq, nI_add, pk_mul, pk_sub, mup_s, mup_c, mup_j, mrw_c, if_pos, if_neg, zm_1, zm_2, zm_3, zm_4, zm_5, zm_6, zm_7, zm_8, zm_9, zf_0, zf_1, zf_2, zf_3, zf_4, zf_5, zf_6, zf_7, zf_8, zf_9, zf_10, zf_14, zf_15, zf_16, zf_18, zf_19, zf_20, zf_24, zf_30, zf_31, zf_32, zf_33, zf_99, zf_100, zf_160, zf_200, zf_287, zf_288, zf_300, zf_1000, zf_1023, zf_1024, zf_1600, zf_3840, zf_25600, zf_36000, zf_1000000, zf_1000000000, zf_2000000000, zf_11560, za_1, za_2, za_4, za_5, za_6, za_7, za_8, za_9, za_10, za_11, za_12, za_14, za_15, za_22, za_23, za_25, za_26, za_27, za_28, za_29, za_30, za_31, za_32, za_33, za_34, za_35, za_41, za_42, za_43, za_44, za_45, za_46, za_47, za_48, za_49, za_61, za_62, za_63, za_64, za_65, za_70]
    exact g401
  · have h0 : Ms.length = 0 := by omega
    simp (disch := omega) only [zi_t, zi_f, bnd_t, zg_in, zx, nI_ltI, nI_leI, nI_eq, nI_add, pk_mul, pk_sub, mup_s, mup_c, mup_j, mrw_c, if_pos, if_neg, zm_1, zm_2, zm_3, zm_4, zm_5, zm_6, zm_7, zm_8, zm_9, zf_0, zf_1, zf_2, zf_3, zf_4, zf_5, zf_6, zf_7, zf_8, zf_9, zf_10, zf_14, zf_15, zf_16, zf_18, zf_19, zf_20, zf_24, zf_30, zf_31, zf_32, zf_33, zf_99, zf_100, zf_160, zf_200, zf_287, zf_288, zf_300, zf_1000, zf_1023, zf_1024, zf_1600, zf_3840, zf_25600, zf_36000, zf_1000000, zf_1000000000, zf_2000000000, zf_11560, za_1, za_2, za_4, za_5, za_6, za_7, za_8, za_9, za_10, za_11, za_12, za_14, za_15, za_22, za_23, za_25, za_26, za_27, za_28, za_29, za_30, za_31, za_32, za_33, za_34, za_35, za_41, za_42, za_43, za_44, za_45, za_46, za_47, za_48, za_49, za_61, za_62, za_63, za_64, za_65, za_70, h0]
    rw [h0] at g401
    exact g401
theorem lw_159 (hN : 40000 < N) (ht : t < 1000) {y d p q : Nat} (hy : y < 2 ^ 31) (hd : d < 16) (hp : Ms.length ≠ 0 → p < Ms.length) (hq : Ms.length ≠ 0 → q < Ms.length) (hW : Wl m Ms w) : Nx rec x6 t (B_L_law_159 N L xs rec m (nI w.length) (nI Ms.length) (nI 1) x6 (nI t) (nI y) (nI d) (nI p) (nI q)) := by
  by_cases c0 : d = 0
  · subst c0; exact lw_d0 hN ht hy hW
  by_cases c1 : d = 1
  · subst c1; exact lw_d1 hN ht hy hW
  by_cases c2 : d = 2
  · subst c2; exact lw_d2 hN ht hy hW
  by_cases cm : 11 ≤ d ∨ Ms.length = 0
  · exact lw_d11 hN ht hy (by omega) hd cm hW
  · have hne : Ms.length ≠ 0 := fun h => cm (Or.inr h)
    have hd11 : d < 11 := by omega
    by_cases c9 : d = 9
    · subst c9; exact lw_d9 hN ht hy (hp hne) hW
    by_cases c10 : d = 10
    · subst c10; exact lw_d10 hN ht hy (hp hne) (hq hne) hW
    · exact lw_d3 hN ht hy (by omega) (by omega) (hp hne) (hq hne) hW
theorem lw_96 (hN : 40000 < N) (ht : t < 1000) (s0 : Int32) (hW : Wl m Ms w) : Nx rec x6 t (B_L_law_96 N L xs rec m (nI w.length) (nI Ms.length) (nI 1) x6 (nI t) s0) := by
  have v1 := hW.1.1
  obtain ⟨y, hy, ey⟩ := msk (K := 268435455) (by omega) (q_shr s0 (nI 4))
  obtain ⟨d, hd, ed⟩ := msk (K := 15) (by omega) s0
  have ey : (q_shr s0 (nI 4)) &&& (268435455 : Int32) = nI y := ey
  have hgd : Ms.length ≠ 0 → (nI Ms.length != nI 0) = true := by
    intro e
    rw [bne_iff_ne]
    intro h
    exact e ((nI_eq (by omega) (by omega)).mp h)
  have e5 : Ms.length ≠ 0 → q_rem (q_shr (nI y) (nI 5)) (nI Ms.length) = nI (y / 32 % Ms.length) := fun e => by rw [sh_5 (by omega), rm_n (by omega) (by omega) (by omega)]
  have e0 : Ms.length ≠ 0 → q_rem (nI y) (nI Ms.length) = nI (y % Ms.length) := fun e => rm_n (by omega) (by omega) (by omega)
  have go : ∀ d, d < 16 → Nx rec x6 t (B_L_law_125 N L xs rec m (nI w.length) (nI Ms.length) (nI 1) x6 (nI t) (nI y) (nI d)) := by
    intro d hd
    unfold B_L_law_125 B_L_law_141
    by_cases c : Ms.length = 0
    · have := lw_159 (L := L) (xs := xs) (rec := rec) (x6 := x6) (y := y) (d := d) (p := 0) (q := 0) hN ht (by omega) hd (fun h => absurd c h) (fun h => absurd c h) hW
      simp (disch := omega) only [zi_t, zi_f, bnd_t, zg_in, zx, nI_ltI, nI_leI, nI_eq, nI_add, pk_mul, pk_sub, mup_s, mup_c, mup_j, mrw_c, if_pos, if_neg, zm_1, zm_2, zm_3, zm_4, zm_5, zm_6, zm_7, zm_8, zm_9, zf_0, zf_1, zf_2, zf_3, zf_4, zf_5, zf_6, zf_7, zf_8, zf_9, zf_10, zf_14, zf_15, zf_16, zf_18, zf_19, zf_20, zf_24, zf_30, zf_31, zf_32, zf_33, zf_99, zf_100, zf_160, zf_200, zf_287, zf_288, zf_300, zf_1000, zf_1023, zf_1024, zf_1600, zf_3840, zf_25600, zf_36000, zf_1000000, zf_1000000000, zf_2000000000, zf_11560, za_1, za_2, za_4, za_5, za_6, za_7, za_8, za_9, za_10, za_11, za_12, za_14, za_15, za_22, za_23, za_25, za_26, za_27, za_28, za_29, za_30, za_31, za_32, za_33, za_34, za_35, za_41, za_42, za_43, za_44, za_45, za_46, za_47, za_48, za_49, za_61, za_62, za_63, za_64, za_65, za_70, c]
      rw [c] at this
      exact this
    · have := lw_159 (L := L) (xs := xs) (rec := rec) (x6 := x6) (y := y) (d := d) (p := y % Ms.length) (q := y / 32 % Ms.length) hN ht (by omega) hd (fun h => Nat.mod_lt _ (by omega)) (fun h => Nat.mod_lt _ (by omega)) hW
      simp (disch := omega) only [zi_t, zi_f, bnd_t, zg_in, zx, nI_ltI, nI_leI, nI_eq, nI_add, pk_mul, pk_sub, mup_s, mup_c, mup_j, mrw_c, if_pos, if_neg, zm_1, zm_2, zm_3, zm_4, zm_5, zm_6, zm_7, zm_8, zm_9, zf_0, zf_1, zf_2, zf_3, zf_4, zf_5, zf_6, zf_7, zf_8, zf_9, zf_10, zf_14, zf_15, zf_16, zf_18, zf_19, zf_20, zf_24, zf_30, zf_31, zf_32, zf_33, zf_99, zf_100, zf_160, zf_200, zf_287, zf_288, zf_300, zf_1000, zf_1023, zf_1024, zf_1600, zf_3840, zf_25600, zf_36000, zf_1000000, zf_1000000000, zf_2000000000, zf_11560, za_1, za_2, za_4, za_5, za_6, za_7, za_8, za_9, za_10, za_11, za_12, za_14, za_15, za_22, za_23, za_25, za_26, za_27, za_28, za_29, za_30, za_31, za_32, za_33, za_34, za_35, za_41, za_42, za_43, za_44, za_45, za_46, za_47, za_48, za_49, za_61, za_62, za_63, za_64, za_65, za_70, c]
      rw [gd_t (hgd c), e0 c, e5 c, gd_t (hgd c)]
      exact this
  unfold B_L_law_96
  simp (disch := omega) only [zi_t, zi_f, bnd_t, zg_in, zx, nI_ltI, nI_leI, nI_eq, nI_add, pk_mul, pk_sub, mup_s, mup_c, mup_j, mrw_c, if_pos, if_neg, zm_1, zm_2, zm_3, zm_4, zm_5, zm_6, zm_7, zm_8, zm_9, zf_0, zf_1, zf_2, zf_3, zf_4, zf_5, zf_6, zf_7, zf_8, zf_9, zf_10, zf_14, zf_15, zf_16, zf_18, zf_19, zf_20, zf_24, zf_30, zf_31, zf_32, zf_33, zf_99, zf_100, zf_160, zf_200, zf_287, zf_288, zf_300, zf_1000, zf_1023, zf_1024, zf_1600, zf_3840, zf_25600, zf_36000, zf_1000000, zf_1000000000, zf_2000000000, zf_11560, za_1, za_2, za_4, za_5, za_6, za_7, za_8, za_9, za_10, za_11, za_12, za_14, za_15, za_22, za_23, za_25, za_26, za_27, za_28, za_29, za_30, za_31, za_32, za_33, za_34, za_35, za_41, za_42, za_43, za_44, za_45, za_46, za_47, za_48, za_49, za_61, za_62, za_63, za_64, za_65, za_70]
  rw [ey, ed]
  by_cases c : t < 4
  · simp (disch := omega) only [zi_t, zi_f, bnd_t, zg_in, zx, nI_ltI, nI_leI, nI_eq, nI_add, pk_mul, pk_sub, mup_s, mup_c, mup_j, mrw_c, if_pos, if_neg, zm_1, zm_2, zm_3, zm_4, zm_5, zm_6, zm_7, zm_8, zm_9, zf_0, zf_1, zf_2, zf_3, zf_4, zf_5, zf_6, zf_7, zf_8, zf_9, zf_10, zf_14, zf_15, zf_16, zf_18, zf_19, zf_20, zf_24, zf_30, zf_31, zf_32, zf_33, zf_99, zf_100, zf_160, zf_200, zf_287, zf_288, zf_300, zf_1000, zf_1023, zf_1024, zf_1600, zf_3840, zf_25600, zf_36000, zf_1000000, zf_1000000000, zf_2000000000, zf_11560, za_1, za_2, za_4, za_5, za_6, za_7, za_8, za_9, za_10, za_11, za_12, za_14, za_15, za_22, za_23, za_25, za_26, za_27, za_28, za_29, za_30, za_31, za_32, za_33, za_34, za_35, za_41, za_42, za_43, za_44, za_45, za_46, za_47, za_48, za_49, za_61, za_62, za_63, za_64, za_65, za_70]
    rw [rm_n (by omega) (by omega) (by omega)]
    exact go _ (by omega)
  · simp (disch := omega) only [zi_t, zi_f, bnd_t, zg_in, zx, nI_ltI, nI_leI, nI_eq, nI_add, pk_mul, pk_sub, mup_s, mup_c, mup_j, mrw_c, if_pos, if_neg, zm_1, zm_2, zm_3, zm_4, zm_5, zm_6, zm_7, zm_8, zm_9, zf_0, zf_1, zf_2, zf_3, zf_4, zf_5, zf_6, zf_7, zf_8, zf_9, zf_10, zf_14, zf_15, zf_16, zf_18, zf_19, zf_20, zf_24, zf_30, zf_31, zf_32, zf_33, zf_99, zf_100, zf_160, zf_200, zf_287, zf_288, zf_300, zf_1000, zf_1023, zf_1024, zf_1600, zf_3840, zf_25600, zf_36000, zf_1000000, zf_1000000000, zf_2000000000, zf_11560, za_1, za_2, za_4, za_5, za_6, za_7, za_8, za_9, za_10, za_11, za_12, za_14, za_15, za_22, za_23, za_25, za_26, za_27, za_28, za_29, za_30, za_31, za_32, za_33, za_34, za_35, za_41, za_42, za_43, za_44, za_45, za_46, za_47, za_48, za_49, za_61, za_62, za_63, za_64, za_65, za_70]
    exact go d (by omega)
end TURN4
theorem law_loop {N L T : Nat} {xs : Nat → Int32} (hN : 40000 < N) (hT : T ≤ 260) (hL : L ≤ 260) : ∀ (d F t : Nat) (m : Mem) (Ms : List Ma) (w : List Nat), t + d = T → d < F → Wl m Ms w → ∃ m', L_L_law_52 N L xs F m (nI w.length) (nI Ms.length) (nI 1) (nI T) (nI t) = some (nI 1, m')
  | 0, F, t, m, Ms, w, ht, hF, hW => by
    obtain ⟨F, rfl⟩ : ∃ F', F = F' + 1 := ⟨F - 1, by omega⟩
    refine ⟨m, ?_⟩
    show S_L_law_52 N L xs (L_L_law_52 N L xs F) m (nI w.length) (nI Ms.length) (nI 1) (nI T) (nI t) = _
    unfold S_L_law_52 B_L_law_1029
    simp (disch := omega) only [zi_t, zi_f, bnd_t, zg_in, zx, nI_ltI, nI_leI, nI_eq, nI_add, pk_mul, pk_sub, mup_s, mup_c, mup_j, mrw_c, if_pos, if_neg, zm_1, zm_2, zm_3, zm_4, zm_5, zm_6, zm_7, zm_8, zm_9, zf_0, zf_1, zf_2, zf_3, zf_4, zf_5, zf_6, zf_7, zf_8, zf_9, zf_10, zf_14, zf_15, zf_16, zf_18, zf_19, zf_20, zf_24, zf_30, zf_31, zf_32, zf_33, zf_99, zf_100, zf_160, zf_200, zf_287, zf_288, zf_300, zf_1000, zf_1023, zf_1024, zf_1600, zf_3840, zf_25600, zf_36000, zf_1000000, zf_1000000000, zf_2000000000, zf_11560, za_1, za_2, za_4, za_5, za_6, za_7, za_8, za_9, za_10, za_11, za_12, za_14, za_15, za_22, za_23, za_25, za_26, za_27, za_28, za_29, za_30, za_31, za_32, za_33, za_34, za_35, za_41, za_42, za_43, za_44, za_45, za_46, za_47, za_48, za_49, za_61, za_62, za_63, za_64, za_65, za_70]
  | d + 1, F, t, m, Ms, w, ht, hF, hW => by
    obtain ⟨F, rfl⟩ : ∃ F', F = F' + 1 := ⟨F - 1, by omega⟩
    have step : Nx (L_L_law_52 N L xs F) (nI T) t (S_L_law_52 N L xs (L_L_law_52 N L xs F) m (nI w.length) (nI Ms.length) (nI 1) (nI T) (nI t)) := by
      have h96 := fun s0 => lw_96 (L := L) (xs := xs) (rec := L_L_law_52 N L xs F) (x6 := nI T) (t := t) hN (by omega) s0 hW
      unfold S_L_law_52
      by_cases c : L ≤ t
      · simp (disch := omega) only [zi_t, zi_f, bnd_t, zg_in, zx, nI_ltI, nI_leI, nI_eq, nI_add, pk_mul, pk_sub, mup_s, mup_c, mup_j, mrw_c, if_pos, if_neg, zm_1, zm_2, zm_3, zm_4, zm_5, zm_6, zm_7, zm_8, zm_9, zf_0, zf_1, zf_2, zf_3, zf_4, zf_5, zf_6, zf_7, zf_8, zf_9, zf_10, zf_14, zf_15, zf_16, zf_18, zf_19, zf_20, zf_24, zf_30, zf_31, zf_32, zf_33, zf_99, zf_100, zf_160, zf_200, zf_287, zf_288, zf_300, zf_1000, zf_1023, zf_1024, zf_1600, zf_3840, zf_25600, zf_36000, zf_1000000, zf_1000000000, zf_2000000000, zf_11560, za_1, za_2, za_4, za_5, za_6, za_7, za_8, za_9, za_10, za_11, za_12, za_14, za_15, za_22, za_23, za_25, za_26, za_27, za_28, za_29, za_30, za_31, za_32, za_33, za_34, za_35, za_41, za_42, za_43, za_44, za_45, za_46, za_47, za_48, za_49, za_61, za_62, za_63, za_64, za_65, za_70]
        exact h96 _
      · simp (disch := omega) only [zi_t, zi_f, bnd_t, zg_in, zx, nI_ltI, nI_leI, nI_eq, nI_add, pk_mul, pk_sub, mup_s, mup_c, mup_j, mrw_c, if_pos, if_neg, zm_1, zm_2, zm_3, zm_4, zm_5, zm_6, zm_7, zm_8, zm_9, zf_0, zf_1, zf_2, zf_3, zf_4, zf_5, zf_6, zf_7, zf_8, zf_9, zf_10, zf_14, zf_15, zf_16, zf_18, zf_19, zf_20, zf_24, zf_30, zf_31, zf_32, zf_33, zf_99, zf_100, zf_160, zf_200, zf_287, zf_288, zf_300, zf_1000, zf_1023, zf_1024, zf_1600, zf_3840, zf_25600, zf_36000, zf_1000000, zf_1000000000, zf_2000000000, zf_11560, za_1, za_2, za_4, za_5, za_6, za_7, za_8, za_9, za_10, za_11, za_12, za_14, za_15, za_22, za_23, za_25, za_26, za_27, za_28, za_29, za_30, za_31, za_32, za_33, za_34, za_35, za_41, za_42, za_43, za_44, za_45, za_46, za_47, za_48, za_49, za_61, za_62, za_63, za_64, za_65, za_70]
        exact h96 _
    obtain ⟨m', Ms', w', h1, h2⟩ := step
    obtain ⟨m2, h3⟩ := law_loop hN hT hL d F (t + 1) m' Ms' w' (by omega) (by omega) h1
    refine ⟨m2, ?_⟩
    show S_L_law_52 N L xs (L_L_law_52 N L xs F) m (nI w.length) (nI Ms.length) (nI 1) (nI T) (nI t) = _
    rw [h2, h3]
theorem law_start : Wl mem0 [] [] := by
  refine ⟨⟨by simp, fun M h => (by cases h), by simp, fun x h => (by cases h), by simp, fun p h => (by cases h)⟩, ⟨rfl, fun i M h => (by simp at h), rfl, fun j x h => (by simp at h), rfl, fun i p h => (by simp at h), Or.inl ⟨rfl, rfl⟩⟩, fun j x h => (by simp at h), fun M h => (by cases h)⟩
theorem zl_40 : (40 : Int32) = nI 40 := rfl
theorem zl_60 : (60 : Int32) = nI 60 := rfl
theorem zl_90 : (90 : Int32) = nI 90 := rfl
theorem law_pure {L : Nat} (xs : Nat → Int32) (hL : L ≤ 260) : ∃ Nf m', F_L_law Nf L xs mem0 = some (1, m') := by
  have go : ∀ T, T ≤ 100 → ∃ m', L_L_law_52 50000 L xs 128 mem0 (nI 0) (nI 0) (nI 1) (nI T) (nI 0) = some (nI 1, m') := fun T hT => law_loop (T := T) (N := 50000) (by omega) (by omega) hL T 128 0 mem0 [] [] (by omega) (by omega) law_start
  by_cases c1 : 40 ≤ L
  · by_cases c2 : 90 ≤ L
    · obtain ⟨m', h⟩ := go 100 (by omega)
      refine ⟨50000, m', ?_⟩
      unfold F_L_law B_L_law_47
      simp (disch := omega) only [zi_t, zi_f, bnd_t, zg_in, zx, nI_ltI, nI_leI, nI_eq, nI_add, pk_mul, pk_sub, mup_s, mup_c, mup_j, mrw_c, if_pos, if_neg, zm_1, zm_2, zm_3, zm_4, zm_5, zm_6, zm_7, zm_8, zm_9, zf_0, zf_1, zf_2, zf_3, zf_4, zf_5, zf_6, zf_7, zf_8, zf_9, zf_10, zf_14, zf_15, zf_16, zf_18, zf_19, zf_20, zf_24, zf_30, zf_31, zf_32, zf_33, zf_99, zf_100, zf_160, zf_200, zf_287, zf_288, zf_300, zf_1000, zf_1023, zf_1024, zf_1600, zf_3840, zf_25600, zf_36000, zf_1000000, zf_1000000000, zf_2000000000, zf_11560, za_1, za_2, za_4, za_5, za_6, za_7, za_8, za_9, za_10, za_11, za_12, za_14, za_15, za_22, za_23, za_25, za_26, za_27, za_28, za_29, za_30, za_31, za_32, za_33, za_34, za_35, za_41, za_42, za_43, za_44, za_45, za_46, za_47, za_48, za_49, za_61, za_62, za_63, za_64, za_65, za_70, zl_40, zl_90]
      exact h
    · obtain ⟨m', h⟩ := go L (by omega)
      refine ⟨50000, m', ?_⟩
      unfold F_L_law B_L_law_47
      simp (disch := omega) only [zi_t, zi_f, bnd_t, zg_in, zx, nI_ltI, nI_leI, nI_eq, nI_add, pk_mul, pk_sub, mup_s, mup_c, mup_j, mrw_c, if_pos, if_neg, zm_1, zm_2, zm_3, zm_4, zm_5, zm_6, zm_7, zm_8, zm_9, zf_0, zf_1, zf_2, zf_3, zf_4, zf_5, zf_6, zf_7, zf_8, zf_9, zf_10, zf_14, zf_15, zf_16, zf_18, zf_19, zf_20, zf_24, zf_30, zf_31, zf_32, zf_33, zf_99, zf_100, zf_160, zf_200, zf_287, zf_288, zf_300, zf_1000, zf_1023, zf_1024, zf_1600, zf_3840, zf_25600, zf_36000, zf_1000000, zf_1000000000, zf_2000000000, zf_11560, za_1, za_2, za_4, za_5, za_6, za_7, za_8, za_9, za_10, za_11, za_12, za_14, za_15, za_22, za_23, za_25, za_26, za_27, za_28, za_29, za_30, za_31, za_32, za_33, za_34, za_35, za_41, za_42, za_43, za_44, za_45, za_46, za_47, za_48, za_49, za_61, za_62, za_63, za_64, za_65, za_70, zl_40, zl_90]
      exact h
  · obtain ⟨m', h⟩ := go 60 (by omega)
    refine ⟨50000, m', ?_⟩
    unfold F_L_law B_L_law_47
    simp (disch := omega) only [zi_t, zi_f, bnd_t, zg_in, zx, nI_ltI, nI_leI, nI_eq, nI_add, pk_mul, pk_sub, mup_s, mup_c, mup_j, mrw_c, if_pos, if_neg, zm_1, zm_2, zm_3, zm_4, zm_5, zm_6, zm_7, zm_8, zm_9, zf_0, zf_1, zf_2, zf_3, zf_4, zf_5, zf_6, zf_7, zf_8, zf_9, zf_10, zf_14, zf_15, zf_16, zf_18, zf_19, zf_20, zf_24, zf_30, zf_31, zf_32, zf_33, zf_99, zf_100, zf_160, zf_200, zf_287, zf_288, zf_300, zf_1000, zf_1023, zf_1024, zf_1600, zf_3840, zf_25600, zf_36000, zf_1000000, zf_1000000000, zf_2000000000, zf_11560, za_1, za_2, za_4, za_5, za_6, za_7, za_8, za_9, za_10, za_11, za_12, za_14, za_15, za_22, za_23, za_25, za_26, za_27, za_28, za_29, za_30, za_31, za_32, za_33, za_34, za_35, za_41, za_42, za_43, za_44, za_45, za_46, za_47, za_48, za_49, za_61, za_62, za_63, za_64, za_65, za_70, zl_40, zl_60]
    exact h
