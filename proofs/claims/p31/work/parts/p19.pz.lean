section BACK2
variable {N : Nat} {Ms : List Ma} {w τ : List Nat} {ls : Ls} {i n : Nat} {u : Bool} {f : Nat → Bool} {L : ArL} {A : List (List Nat)} {β : List Nat} {ck : Int32}
def WdM (m : Mem) (w : List Nat) : Prop := ∀ j x, w[j]? = some x → m 70 j = nI x
theorem WdM.cg {m m' : Mem} (h : WdM m w) (h1 : m' 70 = m 70) : WdM m' w := fun j x hx => by rw [h1]; exact h j x hx
theorem bk_270 (rec : Mem → Int32 → Int32 → Int32 → Int32 → Int32 → Int32 → Int32 → Int32 → Option (Int32 × Mem)) {m : Mem} {x1 x2 x5 x7 x8 x9 : Int32} {b c : Bool} {a : Nat} : B_L_isBack_270 N rec m x1 x2 x5 x7 x8 x9 (bI b) (nI a) (bI c) = rec m x1 x2 x5 x7 x8 x9 (bI (b || c)) (nI (a + 1)) := by
  unfold B_L_isBack_270 B_L_isBack_280 B_L_isBack_285
  cases b <;> cases c <;> simp (disch := omega) only [zi_t, zi_f, bnd_t, zg_in, zx, nI_ltI, nI_leI, nI_eq, nI_add, pk_mul, pk_sub, mup_s, mup_c, mup_j, mrw_c, if_pos, if_neg, zm_1, zm_2, zm_3, zm_4, zm_5, zm_6, zm_7, zm_8, zm_9, zf_0, zf_1, zf_2, zf_3, zf_4, zf_5, zf_6, zf_7, zf_8, zf_9, zf_10, zf_14, zf_15, zf_16, zf_18, zf_19, zf_20, zf_24, zf_30, zf_31, zf_32, zf_33, zf_99, zf_100, zf_160, zf_200, zf_287, zf_288, zf_300, zf_1000, zf_1023, zf_1024, zf_1600, zf_3840, zf_25600, zf_36000, zf_1000000, zf_1000000000, zf_2000000000, zf_11560, za_1, za_2, za_4, za_5, za_6, za_7, za_8, za_9, za_10, za_11, za_12, za_14, za_15, za_22, za_23, za_25, za_26, za_27, za_28, za_29, za_30, za_31, za_32, za_33, za_34, za_35, za_41, za_42, za_43, za_44, za_45, za_46, za_47, za_48, za_49, za_61, za_62, za_63, za_64, za_65, za_70, bI_t, bI_f] <;> rfl
theorem bk_219 (hN : 40000 < N) (hwl : w.length ≤ 8) (hwx : ∀ x, x ∈ w → x < 8) (hk : LkA N Ms τ ls i (!u) A β ck) (hL : Look (!u) n f L τ A) (rec : Mem → Int32 → Int32 → Int32 → Int32 → Int32 → Int32 → Int32 → Int32 → Option (Int32 × Mem)) {a : Nat} {x7 x9 : Int32} {b c : Bool} {m : Mem} (hC : InC m Ms τ ls) (hw : WdM m w) (ha : a < A.length) :
    ∃ m' c', InC m' Ms τ ls ∧ (∀ k, 64 ≤ k → m' k = m k) ∧ (A.getD a [] = w.reverse → c = true → c' = true) ∧ L_L_isBack_219 N rec N m (nI i) (bI u) (nI w.length) x7 (nI 1) x9 (bI b) (nI a) (bI c) (nI 0) = rec m' (nI i) (bI u) (nI w.length) x7 (nI 1) x9 (bI (b || c')) (nI (a + 1)) := by
  have hA20 := hL.1
  refine loopF (σ := Mem × Bool) (fun g s k => L_L_isBack_219 N rec g s.1 (nI i) (bI u) (nI w.length) x7 (nI 1) x9 (bI b) (nI a) (bI s.2) (nI k)) w.length (fun k s => InC s.1 Ms τ ls ∧ (∀ c, 64 ≤ c → s.1 c = m c) ∧ (A.getD a [] = w.reverse → c = true → s.2 = true)) (fun o => ∃ m' c', InC m' Ms τ ls ∧ (∀ k, 64 ≤ k → m' k = m k) ∧ (A.getD a [] = w.reverse → c = true → c' = true) ∧ o = rec m' (nI i) (bI u) (nI w.length) x7 (nI 1) x9 (bI (b || c')) (nI (a + 1))) ?_ ?_ N 0 (m, c) (Nat.zero_le _) ⟨hC, fun _ _ => rfl, fun _ h => h⟩ (by omega)
  · rintro g k ⟨m1, e⟩ hkl ⟨h1, h2, h3⟩
    have h1 : InC m1 Ms τ ls := h1
    have h2 : ∀ c, 64 ≤ c → m1 c = m c := h2
    have h3 : A.getD a [] = w.reverse → c = true → e = true := h3
    cases e with
    | false =>
      right
      refine ⟨m1, false, h1, h2, h3, ?_⟩
      show S_L_isBack_219 N rec (L_L_isBack_219 N rec g) m1 (nI i) (bI u) (nI w.length) x7 (nI 1) x9 (bI b) (nI a) (bI false) (nI k) = _
      rw [← bk_270 (N := N) rec]
      unfold S_L_isBack_219
      rw [bI_f]
      simp (disch := omega) only [zi_t, zi_f, bnd_t, zg_in, zx, nI_ltI, nI_leI, nI_eq, nI_add, pk_mul, pk_sub, mup_s, mup_c, mup_j, mrw_c, if_pos, if_neg, zm_1, zm_2, zm_3, zm_4, zm_5, zm_6, zm_7, zm_8, zm_9, zf_0, zf_1, zf_2, zf_3, zf_4, zf_5, zf_6, zf_7, zf_8, zf_9, zf_10, zf_14, zf_15, zf_16, zf_18, zf_19, zf_20, zf_24, zf_30, zf_31, zf_32, zf_33, zf_99, zf_100, zf_160, zf_200, zf_287, zf_288, zf_300, zf_1000, zf_1023, zf_1024, zf_1600, zf_3840, zf_25600, zf_36000, zf_1000000, zf_1000000000, zf_2000000000, zf_11560, za_1, za_2, za_4, za_5, za_6, za_7, za_8, za_9, za_10, za_11, za_12, za_14, za_15, za_22, za_23, za_25, za_26, za_27, za_28, za_29, za_30, za_31, za_32, za_33, za_34, za_35, za_41, za_42, za_43, za_44, za_45, za_46, za_47, za_48, za_49, za_61, za_62, za_63, za_64, za_65, za_70]
    | true =>
      left
      obtain ⟨y, hy⟩ : ∃ y, w[k]? = some y := ⟨_, List.getElem?_eq_getElem hkl⟩
      have hy8 := hwx y (List.mem_of_getElem? hy)
      obtain ⟨ma, p1, p2, p3⟩ := lk_at hk h1 ha hA20 (p := k) (by omega)
      have e70 : ma 70 k = nI y := by rw [p3 70 (by omega), h2 70 (by omega)]; exact hw k y hy
      have z1 : ltP (A.getD a []) k ≤ 8 := ltP_8 (hL.2.2.1 _ (gD_mem ha).2).2.1 k
      refine ⟨(ma, decide (ltP (A.getD a []) k = y)), ⟨p2, fun c hc => by show ma c = m c; rw [p3 c hc, h2 c hc], fun h _ => by show decide _ = true; rw [h]; exact decide_eq_true (ltP_rr hy)⟩, ?_⟩
      show S_L_isBack_219 N rec (L_L_isBack_219 N rec g) m1 (nI i) (bI u) (nI w.length) x7 (nI 1) x9 (bI b) (nI a) (bI true) (nI k) = _
      have hb : ∀ (s0 : Int32), s0 = bI (!u) → B_L_isBack_242 N rec (L_L_isBack_219 N rec g) m1 (nI i) (bI u) (nI w.length) x7 (nI 1) x9 (bI b) (nI a) (nI k) s0 (nI i) = L_L_isBack_219 N rec g ma (nI i) (bI u) (nI w.length) x7 (nI 1) x9 (bI b) (nI a) (bI (decide (ltP (A.getD a []) k = y))) (nI (k + 1)) := by
        intro s0 hs0
        subst hs0
        unfold B_L_isBack_242 B_L_isBack_262
        rw [clL_t p1]
        by_cases ce : ltP (A.getD a []) k = y
        · simp (disch := omega) only [zi_t, zi_f, bnd_t, zg_in, zx, nI_ltI, nI_leI, nI_eq, nI_add, pk_mul, pk_sub, mup_s, mup_c, mup_j, mrw_c, if_pos, if_neg, zm_1, zm_2, zm_3, zm_4, zm_5, zm_6, zm_7, zm_8, zm_9, zf_0, zf_1, zf_2, zf_3, zf_4, zf_5, zf_6, zf_7, zf_8, zf_9, zf_10, zf_14, zf_15, zf_16, zf_18, zf_19, zf_20, zf_24, zf_30, zf_31, zf_32, zf_33, zf_99, zf_100, zf_160, zf_200, zf_287, zf_288, zf_300, zf_1000, zf_1023, zf_1024, zf_1600, zf_3840, zf_25600, zf_36000, zf_1000000, zf_1000000000, zf_2000000000, zf_11560, za_1, za_2, za_4, za_5, za_6, za_7, za_8, za_9, za_10, za_11, za_12, za_14, za_15, za_22, za_23, za_25, za_26, za_27, za_28, za_29, za_30, za_31, za_32, za_33, za_34, za_35, za_41, za_42, za_43, za_44, za_45, za_46, za_47, za_48, za_49, za_61, za_62, za_63, za_64, za_65, za_70, e70, ce]
          rfl
        · simp (disch := omega) only [zi_t, zi_f, bnd_t, zg_in, zx, nI_ltI, nI_leI, nI_eq, nI_add, pk_mul, pk_sub, mup_s, mup_c, mup_j, mrw_c, if_pos, if_neg, zm_1, zm_2, zm_3, zm_4, zm_5, zm_6, zm_7, zm_8, zm_9, zf_0, zf_1, zf_2, zf_3, zf_4, zf_5, zf_6, zf_7, zf_8, zf_9, zf_10, zf_14, zf_15, zf_16, zf_18, zf_19, zf_20, zf_24, zf_30, zf_31, zf_32, zf_33, zf_99, zf_100, zf_160, zf_200, zf_287, zf_288, zf_300, zf_1000, zf_1023, zf_1024, zf_1600, zf_3840, zf_25600, zf_36000, zf_1000000, zf_1000000000, zf_2000000000, zf_11560, za_1, za_2, za_4, za_5, za_6, za_7, za_8, za_9, za_10, za_11, za_12, za_14, za_15, za_22, za_23, za_25, za_26, za_27, za_28, za_29, za_30, za_31, za_32, za_33, za_34, za_35, za_41, za_42, za_43, za_44, za_45, za_46, za_47, za_48, za_49, za_61, za_62, za_63, za_64, za_65, za_70, e70, ce]
          rfl
      unfold S_L_isBack_219
      rw [bI_t]
      cases u with
      | true =>
        have := hb (nI 0) rfl
        rw [bI_t] at this
        simp (disch := omega) only [zi_t, zi_f, bnd_t, zg_in, zx, nI_ltI, nI_leI, nI_eq, nI_add, pk_mul, pk_sub, mup_s, mup_c, mup_j, mrw_c, if_pos, if_neg, zm_1, zm_2, zm_3, zm_4, zm_5, zm_6, zm_7, zm_8, zm_9, zf_0, zf_1, zf_2, zf_3, zf_4, zf_5, zf_6, zf_7, zf_8, zf_9, zf_10, zf_14, zf_15, zf_16, zf_18, zf_19, zf_20, zf_24, zf_30, zf_31, zf_32, zf_33, zf_99, zf_100, zf_160, zf_200, zf_287, zf_288, zf_300, zf_1000, zf_1023, zf_1024, zf_1600, zf_3840, zf_25600, zf_36000, zf_1000000, zf_1000000000, zf_2000000000, zf_11560, za_1, za_2, za_4, za_5, za_6, za_7, za_8, za_9, za_10, za_11, za_12, za_14, za_15, za_22, za_23, za_25, za_26, za_27, za_28, za_29, za_30, za_31, za_32, za_33, za_34, za_35, za_41, za_42, za_43, za_44, za_45, za_46, za_47, za_48, za_49, za_61, za_62, za_63, za_64, za_65, za_70, bI_t]
        exact this
      | false =>
        have := hb (nI 1) rfl
        rw [bI_f] at this
        simp (disch := omega) only [zi_t, zi_f, bnd_t, zg_in, zx, nI_ltI, nI_leI, nI_eq, nI_add, pk_mul, pk_sub, mup_s, mup_c, mup_j, mrw_c, if_pos, if_neg, zm_1, zm_2, zm_3, zm_4, zm_5, zm_6, zm_7, zm_8, zm_9, zf_0, zf_1, zf_2, zf_3, zf_4, zf_5, zf_6, zf_7, zf_8, zf_9, zf_10, zf_14, zf_15, zf_16, zf_18, zf_19, zf_20, zf_24, zf_30, zf_31, zf_32, zf_33, zf_99, zf_100, zf_160, zf_200, zf_287, zf_288, zf_300, zf_1000, zf_1023, zf_1024, zf_1600, zf_3840, zf_25600, zf_36000, zf_1000000, zf_1000000000, zf_2000000000, zf_11560, za_1, za_2, za_4, za_5, za_6, za_7, za_8, za_9, za_10, za_11, za_12, za_14, za_15, za_22, za_23, za_25, za_26, za_27, za_28, za_29, za_30, za_31, za_32, za_33, za_34, za_35, za_41, za_42, za_43, za_44, za_45, za_46, za_47, za_48, za_49, za_61, za_62, za_63, za_64, za_65, za_70, bI_f]
        exact this
  · rintro g ⟨m1, e⟩ ⟨h1, h2, h3⟩
    refine ⟨m1, e, h1, h2, h3, ?_⟩
    show S_L_isBack_219 N rec (L_L_isBack_219 N rec g) m1 (nI i) (bI u) (nI w.length) x7 (nI 1) x9 (bI b) (nI a) (bI e) (nI w.length) = _
    rw [← bk_270 (N := N) rec]
    unfold S_L_isBack_219
    simp (disch := omega) only [zi_t, zi_f, bnd_t, zg_in, zx, nI_ltI, nI_leI, nI_eq, nI_add, pk_mul, pk_sub, mup_s, mup_c, mup_j, mrw_c, if_pos, if_neg, zm_1, zm_2, zm_3, zm_4, zm_5, zm_6, zm_7, zm_8, zm_9, zf_0, zf_1, zf_2, zf_3, zf_4, zf_5, zf_6, zf_7, zf_8, zf_9, zf_10, zf_14, zf_15, zf_16, zf_18, zf_19, zf_20, zf_24, zf_30, zf_31, zf_32, zf_33, zf_99, zf_100, zf_160, zf_200, zf_287, zf_288, zf_300, zf_1000, zf_1023, zf_1024, zf_1600, zf_3840, zf_25600, zf_36000, zf_1000000, zf_1000000000, zf_2000000000, zf_11560, za_1, za_2, za_4, za_5, za_6, za_7, za_8, za_9, za_10, za_11, za_12, za_14, za_15, za_22, za_23, za_25, za_26, za_27, za_28, za_29, za_30, za_31, za_32, za_33, za_34, za_35, za_41, za_42, za_43, za_44, za_45, za_46, za_47, za_48, za_49, za_61, za_62, za_63, za_64, za_65, za_70]
theorem bk_197 (hN : 40000 < N) (hwl : w.length ≤ 8) (hwx : ∀ x, x ∈ w → x < 8) (hk : LkA N Ms τ ls i (!u) A β ck) (hL : Look (!u) n f L τ A) (rec : Mem → Int32 → Int32 → Int32 → Int32 → Int32 → Int32 → Int32 → Int32 → Option (Int32 × Mem)) {a : Nat} {x7 x9 : Int32} {b : Bool} {m : Mem} (hC : InC m Ms τ ls) (hw : WdM m w) (ha : a < A.length) :
    ∃ m' c', InC m' Ms τ ls ∧ (∀ k, 64 ≤ k → m' k = m k) ∧ (A.getD a [] = w.reverse → c' = true) ∧ B_L_isBack_197 N rec m (nI i) (bI u) (nI w.length) x7 (nI 1) x9 (bI b) (nI a) (bI (!u)) (nI i) = rec m' (nI i) (bI u) (nI w.length) x7 (nI 1) x9 (bI (b || c')) (nI (a + 1)) := by
  have hA20 := hL.1
  obtain ⟨ma, p1, p2, p3⟩ := lk_at hk hC ha hA20 (p := w.length) (by omega)
  have z1 : ltP (A.getD a []) w.length ≤ 8 := ltP_8 (hL.2.2.1 _ (gD_mem ha).2).2.1 w.length
  obtain ⟨m', c', g1, g2, g3, g4⟩ := bk_219 hN hwl hwx hk hL rec (x7 := x7) (x9 := x9) (b := b) (c := decide (ltP (A.getD a []) w.length = 8)) p2 (hw.cg (p3 70 (by omega))) ha
  refine ⟨m', c', g1, fun k hk => by rw [g2 k hk, p3 k hk], fun h => g3 h (by rw [h]; exact decide_eq_true (ltP_end _ (by rw [List.length_reverse]; exact Nat.le_refl _))), ?_⟩
  rw [← g4]
  unfold B_L_isBack_197 B_L_isBack_214
  rw [clL_t p1]
  by_cases c8 : ltP (A.getD a []) w.length = 8
  · simp (disch := omega) only [zi_t, zi_f, bnd_t, zg_in, zx, nI_ltI, nI_leI, nI_eq, nI_add, pk_mul, pk_sub, mup_s, mup_c, mup_j, mrw_c, if_pos, if_neg, zm_1, zm_2, zm_3, zm_4, zm_5, zm_6, zm_7, zm_8, zm_9, zf_0, zf_1, zf_2, zf_3, zf_4, zf_5, zf_6, zf_7, zf_8, zf_9, zf_10, zf_14, zf_15, zf_16, zf_18, zf_19, zf_20, zf_24, zf_30, zf_31, zf_32, zf_33, zf_99, zf_100, zf_160, zf_200, zf_287, zf_288, zf_300, zf_1000, zf_1023, zf_1024, zf_1600, zf_3840, zf_25600, zf_36000, zf_1000000, zf_1000000000, zf_2000000000, zf_11560, za_1, za_2, za_4, za_5, za_6, za_7, za_8, za_9, za_10, za_11, za_12, za_14, za_15, za_22, za_23, za_25, za_26, za_27, za_28, za_29, za_30, za_31, za_32, za_33, za_34, za_35, za_41, za_42, za_43, za_44, za_45, za_46, za_47, za_48, za_49, za_61, za_62, za_63, za_64, za_65, za_70, c8]
    rfl
  · simp (disch := omega) only [zi_t, zi_f, bnd_t, zg_in, zx, nI_ltI, nI_leI, nI_eq, nI_add, pk_mul, pk_sub, mup_s, mup_c, mup_j, mrw_c, if_pos, if_neg, zm_1, zm_2, zm_3, zm_4, zm_5, zm_6, zm_7, zm_8, zm_9, zf_0, zf_1, zf_2, zf_3, zf_4, zf_5, zf_6, zf_7, zf_8, zf_9, zf_10, zf_14, zf_15, zf_16, zf_18, zf_19, zf_20, zf_24, zf_30, zf_31, zf_32, zf_33, zf_99, zf_100, zf_160, zf_200, zf_287, zf_288, zf_300, zf_1000, zf_1023, zf_1024, zf_1600, zf_3840, zf_25600, zf_36000, zf_1000000, zf_1000000000, zf_2000000000, zf_11560, za_1, za_2, za_4, za_5, za_6, za_7, za_8, za_9, za_10, za_11, za_12, za_14, za_15, za_22, za_23, za_25, za_26, za_27, za_28, za_29, za_30, za_31, za_32, za_33, za_34, za_35, za_41, za_42, za_43, za_44, za_45, za_46, za_47, za_48, za_49, za_61, za_62, za_63, za_64, za_65, za_70, c8]
    rfl
theorem bk_293 (hN : 40000 < N) (hV : InV Ms w ls) {m : Mem} (hC : InC m Ms τ ls) (hw : WdM m w) : PQ m Ms w ls (B_L_isBack_293 N m (nI w.length) (nI τ.length) (nI 1) (nI 1)) := by
  obtain ⟨m1, h1, h2, h3⟩ := as_clearQ (N := N) hC
  obtain ⟨m', g1, g2, g3⟩ := bk_322 hN hV h2 (hw.cg (h3 70 (by omega)))
  refine ⟨m', ?_, g2, fun k hk => by rw [g3 k hk, h3 k hk]⟩
  unfold B_L_isBack_293 B_L_isBack_317
  simp (disch := omega) only [zi_t, zi_f, bnd_t, zg_in, zx, nI_ltI, nI_leI, nI_eq, nI_add, pk_mul, pk_sub, mup_s, mup_c, mup_j, mrw_c, if_pos, if_neg, zm_1, zm_2, zm_3, zm_4, zm_5, zm_6, zm_7, zm_8, zm_9, zf_0, zf_1, zf_2, zf_3, zf_4, zf_5, zf_6, zf_7, zf_8, zf_9, zf_10, zf_14, zf_15, zf_16, zf_18, zf_19, zf_20, zf_24, zf_30, zf_31, zf_32, zf_33, zf_99, zf_100, zf_160, zf_200, zf_287, zf_288, zf_300, zf_1000, zf_1023, zf_1024, zf_1600, zf_3840, zf_25600, zf_36000, zf_1000000, zf_1000000000, zf_2000000000, zf_11560, za_1, za_2, za_4, za_5, za_6, za_7, za_8, za_9, za_10, za_11, za_12, za_14, za_15, za_22, za_23, za_25, za_26, za_27, za_28, za_29, za_30, za_31, za_32, za_33, za_34, za_35, za_41, za_42, za_43, za_44, za_45, za_46, za_47, za_48, za_49, za_61, za_62, za_63, za_64, za_65, za_70]
  rw [cal_t h1]
  simp (disch := omega) only [zi_t, zi_f, bnd_t, zg_in, zx, nI_ltI, nI_leI, nI_eq, nI_add, pk_mul, pk_sub, mup_s, mup_c, mup_j, mrw_c, if_pos, if_neg, zm_1, zm_2, zm_3, zm_4, zm_5, zm_6, zm_7, zm_8, zm_9, zf_0, zf_1, zf_2, zf_3, zf_4, zf_5, zf_6, zf_7, zf_8, zf_9, zf_10, zf_14, zf_15, zf_16, zf_18, zf_19, zf_20, zf_24, zf_30, zf_31, zf_32, zf_33, zf_99, zf_100, zf_160, zf_200, zf_287, zf_288, zf_300, zf_1000, zf_1023, zf_1024, zf_1600, zf_3840, zf_25600, zf_36000, zf_1000000, zf_1000000000, zf_2000000000, zf_11560, za_1, za_2, za_4, za_5, za_6, za_7, za_8, za_9, za_10, za_11, za_12, za_14, za_15, za_22, za_23, za_25, za_26, za_27, za_28, za_29, za_30, za_31, za_32, za_33, za_34, za_35, za_41, za_42, za_43, za_44, za_45, za_46, za_47, za_48, za_49, za_61, za_62, za_63, za_64, za_65, za_70]
  exact g1
theorem bk_174 (hN : 40000 < N) (hV : InV Ms w ls) (hk : LkA N Ms τ ls i (!u) A β ck) (hL : Look (!u) n f L τ A) (hin : A.length < 20 → w.reverse ∈ A) {m : Mem} (hC : InC m Ms τ ls) (hw : WdM m w) : PQ m Ms w ls (L_L_isBack_174 N N m (nI i) (bI u) (nI w.length) (nI τ.length) (nI 1) (nI A.length) (bI (decide (A.length = 20))) (nI 0)) := by
  have hA20 := hL.1
  have v3 := hV.2.2.1
  have v4 := hV.2.2.2.1
  refine loopF (σ := Mem × Bool) (fun g s k => L_L_isBack_174 N g s.1 (nI i) (bI u) (nI w.length) (nI τ.length) (nI 1) (nI A.length) (bI s.2) (nI k)) A.length (fun k s => InC s.1 Ms τ ls ∧ (∀ c, 64 ≤ c → s.1 c = m c) ∧ (A.length = 20 → s.2 = true) ∧ ∀ j, j < k → A.getD j [] = w.reverse → s.2 = true) (PQ m Ms w ls) ?_ ?_ N 0 (m, decide (A.length = 20)) (Nat.zero_le _) ⟨hC, fun _ _ => rfl, fun h => decide_eq_true h, fun j hj => absurd hj (Nat.not_lt_zero _)⟩ (by omega)
  · rintro g a ⟨m1, b⟩ ha ⟨h1, h2, h3, h4⟩
    have h2 : ∀ c, 64 ≤ c → m1 c = m c := h2
    obtain ⟨m2, c, g1, g2, g3, g4⟩ := bk_197 hN v3 v4 hk hL (L_L_isBack_174 N g) (x7 := nI τ.length) (x9 := nI A.length) (b := b) h1 (hw.cg (h2 70 (by omega))) ha
    refine Or.inl ⟨(m2, b || c), ⟨g1, fun c hc => by show m2 c = m c; rw [g2 c hc]; exact h2 c hc, fun h => ?_, fun j hj hjb => ?_⟩, ?_⟩
    · show (b || c) = true
      rw [show b = true from h3 h]; rfl
    · show (b || c) = true
      by_cases e : j = a
      · rw [e] at hjb
        rw [g3 hjb, Bool.or_true]
      · rw [show b = true from h4 j (by omega) hjb]; rfl
    · show S_L_isBack_174 N (L_L_isBack_174 N g) m1 (nI i) (bI u) (nI w.length) (nI τ.length) (nI 1) (nI A.length) (bI b) (nI a) = _
      unfold S_L_isBack_174
      cases u with
      | true =>
        simp (disch := omega) only [zi_t, zi_f, bnd_t, zg_in, zx, nI_ltI, nI_leI, nI_eq, nI_add, pk_mul, pk_sub, mup_s, mup_c, mup_j, mrw_c, if_pos, if_neg, zm_1, zm_2, zm_3, zm_4, zm_5, zm_6, zm_7, zm_8, zm_9, zf_0, zf_1, zf_2, zf_3, zf_4, zf_5, zf_6, zf_7, zf_8, zf_9, zf_10, zf_14, zf_15, zf_16, zf_18, zf_19, zf_20, zf_24, zf_30, zf_31, zf_32, zf_33, zf_99, zf_100, zf_160, zf_200, zf_287, zf_288, zf_300, zf_1000, zf_1023, zf_1024, zf_1600, zf_3840, zf_25600, zf_36000, zf_1000000, zf_1000000000, zf_2000000000, zf_11560, za_1, za_2, za_4, za_5, za_6, za_7, za_8, za_9, za_10, za_11, za_12, za_14, za_15, za_22, za_23, za_25, za_26, za_27, za_28, za_29, za_30, za_31, za_32, za_33, za_34, za_35, za_41, za_42, za_43, za_44, za_45, za_46, za_47, za_48, za_49, za_61, za_62, za_63, za_64, za_65, za_70, bI_t]
        exact g4
      | false =>
        simp (disch := omega) only [zi_t, zi_f, bnd_t, zg_in, zx, nI_ltI, nI_leI, nI_eq, nI_add, pk_mul, pk_sub, mup_s, mup_c, mup_j, mrw_c, if_pos, if_neg, zm_1, zm_2, zm_3, zm_4, zm_5, zm_6, zm_7, zm_8, zm_9, zf_0, zf_1, zf_2, zf_3, zf_4, zf_5, zf_6, zf_7, zf_8, zf_9, zf_10, zf_14, zf_15, zf_16, zf_18, zf_19, zf_20, zf_24, zf_30, zf_31, zf_32, zf_33, zf_99, zf_100, zf_160, zf_200, zf_287, zf_288, zf_300, zf_1000, zf_1023, zf_1024, zf_1600, zf_3840, zf_25600, zf_36000, zf_1000000, zf_1000000000, zf_2000000000, zf_11560, za_1, za_2, za_4, za_5, za_6, za_7, za_8, za_9, za_10, za_11, za_12, za_14, za_15, za_22, za_23, za_25, za_26, za_27, za_28, za_29, za_30, za_31, za_32, za_33, za_34, za_35, za_41, za_42, za_43, za_44, za_45, za_46, za_47, za_48, za_49, za_61, za_62, za_63, za_64, za_65, za_70, bI_f]
        exact g4
  · rintro g ⟨m1, b⟩ ⟨h1, h2, h3, h4⟩
    have h2 : ∀ c, 64 ≤ c → m1 c = m c := h2
    have hb : b = true := by
      rcases Nat.lt_or_ge A.length 20 with e | e
      · obtain ⟨j, hj⟩ := List.getElem?_of_mem (hin e)
        exact h4 j (List.getElem?_eq_some_iff.mp hj).1 (by rw [List.getD_eq_getElem?_getD, hj]; rfl)
      · exact h3 (by omega)
    subst hb
    obtain ⟨m', g1, g2, g3⟩ := bk_293 hN hV (τ := τ) h1 (hw.cg (h2 70 (by omega)))
    refine ⟨m', ?_, g2, fun k hk => by rw [g3 k hk]; exact h2 k hk⟩
    show S_L_isBack_174 N (L_L_isBack_174 N g) m1 (nI i) (bI u) (nI w.length) (nI τ.length) (nI 1) (nI A.length) (bI true) (nI A.length) = _
    unfold S_L_isBack_174
    rw [bI_t]
    simp (disch := omega) only [zi_t, zi_f, bnd_t, zg_in, zx, nI_ltI, nI_leI, nI_eq, nI_add, pk_mul, pk_sub, mup_s, mup_c, mup_j, mrw_c, if_pos, if_neg, zm_1, zm_2, zm_3, zm_4, zm_5, zm_6, zm_7, zm_8, zm_9, zf_0, zf_1, zf_2, zf_3, zf_4, zf_5, zf_6, zf_7, zf_8, zf_9, zf_10, zf_14, zf_15, zf_16, zf_18, zf_19, zf_20, zf_24, zf_30, zf_31, zf_32, zf_33, zf_99, zf_100, zf_160, zf_200, zf_287, zf_288, zf_300, zf_1000, zf_1023, zf_1024, zf_1600, zf_3840, zf_25600, zf_36000, zf_1000000, zf_1000000000, zf_2000000000, zf_11560, za_1, za_2, za_4, za_5, za_6, za_7, za_8, za_9, za_10, za_11, za_12, za_14, za_15, za_22, za_23, za_25, za_26, za_27, za_28, za_29, za_30, za_31, za_32, za_33, za_34, za_35, za_41, za_42, za_43, za_44, za_45, za_46, za_47, za_48, za_49, za_61, za_62, za_63, za_64, za_65, za_70]
    exact g1
theorem bk_141 (hN : 40000 < N) (hV : InV Ms w ls) (hk : LkA N Ms τ ls i (!u) A β ck) (hL : Look (!u) n f L τ A) (hin : A.length < 20 → w.reverse ∈ A) {m : Mem} (hC : InC m Ms τ ls) (hw : WdM m w) : PQ m Ms w ls (B_L_isBack_141 N m (nI i) (bI u) (nI w.length) (nI τ.length) (nI 1)) := by
  have hA20 := hL.1
  obtain ⟨ma, p1, p2, p3⟩ := (hk m hC).1
  obtain ⟨m', g1, g2, g3⟩ := bk_174 hN hV hk hL hin p2 (hw.cg (p3 70 (by omega)))
  refine ⟨m', ?_, g2, fun k hk => by rw [g3 k hk, p3 k hk]⟩
  have hb : B_L_isBack_152 N m (nI i) (bI u) (nI w.length) (nI τ.length) (nI 1) (bI (!u)) (nI i) = some (nI 1, m') := by
    rw [← g1]
    unfold B_L_isBack_152 B_L_isBack_169
    rw [clL_t p1]
    by_cases e : A.length = 20
    · simp (disch := omega) only [zi_t, zi_f, bnd_t, zg_in, zx, nI_ltI, nI_leI, nI_eq, nI_add, pk_mul, pk_sub, mup_s, mup_c, mup_j, mrw_c, if_pos, if_neg, zm_1, zm_2, zm_3, zm_4, zm_5, zm_6, zm_7, zm_8, zm_9, zf_0, zf_1, zf_2, zf_3, zf_4, zf_5, zf_6, zf_7, zf_8, zf_9, zf_10, zf_14, zf_15, zf_16, zf_18, zf_19, zf_20, zf_24, zf_30, zf_31, zf_32, zf_33, zf_99, zf_100, zf_160, zf_200, zf_287, zf_288, zf_300, zf_1000, zf_1023, zf_1024, zf_1600, zf_3840, zf_25600, zf_36000, zf_1000000, zf_1000000000, zf_2000000000, zf_11560, za_1, za_2, za_4, za_5, za_6, za_7, za_8, za_9, za_10, za_11, za_12, za_14, za_15, za_22, za_23, za_25, za_26, za_27, za_28, za_29, za_30, za_31, za_32, za_33, za_34, za_35, za_41, za_42, za_43, za_44, za_45, za_46, za_47, za_48, za_49, za_61, za_62, za_63, za_64, za_65, za_70, e]
      rfl
    · simp (disch := omega) only [zi_t, zi_f, bnd_t, zg_in, zx, nI_ltI, nI_leI, nI_eq, nI_add, pk_mul, pk_sub, mup_s, mup_c, mup_j, mrw_c, if_pos, if_neg, zm_1, zm_2, zm_3, zm_4, zm_5, zm_6, zm_7, zm_8, zm_9, zf_0, zf_1, zf_2, zf_3, zf_4, zf_5, zf_6, zf_7, zf_8, zf_9, zf_10, zf_14, zf_15, zf_16, zf_18, zf_19, zf_20, zf_24, zf_30, zf_31, zf_32, zf_33, zf_99, zf_100, zf_160, zf_200, zf_287, zf_288, zf_300, zf_1000, zf_1023, zf_1024, zf_1600, zf_3840, zf_25600, zf_36000, zf_1000000, zf_1000000000, zf_2000000000, zf_11560, za_1, za_2, za_4, za_5, za_6, za_7, za_8, za_9, za_10, za_11, za_12, za_14, za_15, za_22, za_23, za_25, za_26, za_27, za_28, za_29, za_30, za_31, za_32, za_33, za_34, za_35, za_41, za_42, za_43, za_44, za_45, za_46, za_47, za_48, za_49, za_61, za_62, za_63, za_64, za_65, za_70, e]
      rfl
  unfold B_L_isBack_141
  cases u with
  | true =>
    simp (disch := omega) only [zi_t, zi_f, bnd_t, zg_in, zx, nI_ltI, nI_leI, nI_eq, nI_add, pk_mul, pk_sub, mup_s, mup_c, mup_j, mrw_c, if_pos, if_neg, zm_1, zm_2, zm_3, zm_4, zm_5, zm_6, zm_7, zm_8, zm_9, zf_0, zf_1, zf_2, zf_3, zf_4, zf_5, zf_6, zf_7, zf_8, zf_9, zf_10, zf_14, zf_15, zf_16, zf_18, zf_19, zf_20, zf_24, zf_30, zf_31, zf_32, zf_33, zf_99, zf_100, zf_160, zf_200, zf_287, zf_288, zf_300, zf_1000, zf_1023, zf_1024, zf_1600, zf_3840, zf_25600, zf_36000, zf_1000000, zf_1000000000, zf_2000000000, zf_11560, za_1, za_2, za_4, za_5, za_6, za_7, za_8, za_9, za_10, za_11, za_12, za_14, za_15, za_22, za_23, za_25, za_26, za_27, za_28, za_29, za_30, za_31, za_32, za_33, za_34, za_35, za_41, za_42, za_43, za_44, za_45, za_46, za_47, za_48, za_49, za_61, za_62, za_63, za_64, za_65, za_70, bI_t]
    exact hb
  | false =>
    simp (disch := omega) only [zi_t, zi_f, bnd_t, zg_in, zx, nI_ltI, nI_leI, nI_eq, nI_add, pk_mul, pk_sub, mup_s, mup_c, mup_j, mrw_c, if_pos, if_neg, zm_1, zm_2, zm_3, zm_4, zm_5, zm_6, zm_7, zm_8, zm_9, zf_0, zf_1, zf_2, zf_3, zf_4, zf_5, zf_6, zf_7, zf_8, zf_9, zf_10, zf_14, zf_15, zf_16, zf_18, zf_19, zf_20, zf_24, zf_30, zf_31, zf_32, zf_33, zf_99, zf_100, zf_160, zf_200, zf_287, zf_288, zf_300, zf_1000, zf_1023, zf_1024, zf_1600, zf_3840, zf_25600, zf_36000, zf_1000000, zf_1000000000, zf_2000000000, zf_11560, za_1, za_2, za_4, za_5, za_6, za_7, za_8, za_9, za_10, za_11, za_12, za_14, za_15, za_22, za_23, za_25, za_26, za_27, za_28, za_29, za_30, za_31, za_32, za_33, za_34, za_35, za_41, za_42, za_43, za_44, za_45, za_46, za_47, za_48, za_49, za_61, za_62, za_63, za_64, za_65, za_70, bI_f]
    exact hb
theorem bk_94 (hN : 40000 < N) (hV : InV Ms w ls) (hτl : τ.length ≤ 8) (hτx : ∀ x, x ∈ τ → x < 8) (hk : LkA N Ms τ ls i (!u) A β ck) (hL : Look (!u) n f L τ A) (hin : A.length < 20 → w.reverse ∈ A) {m : Mem} (hC : InC m Ms [] ls) (hw : WdM m w) (ht : ∀ j x, τ[j]? = some x → m 2147483649 j = nI x) : PQ m Ms w ls (L_L_isBack_94 N N m (nI i) (bI u) (nI w.length) (nI τ.length) (nI 1) (nI 0)) := by
  refine loopF (fun g (m : Mem) k => L_L_isBack_94 N g m (nI i) (bI u) (nI w.length) (nI τ.length) (nI 1) (nI k)) τ.length (fun k m' => InC m' Ms (τ.take k) ls ∧ ∀ c, 64 ≤ c → m' c = m c) (PQ m Ms w ls) ?_ ?_ N 0 m (Nat.zero_le _) ⟨hC, fun _ _ => rfl⟩ (by omega)
  · rintro g k m1 hk2 ⟨h1, h2⟩
    obtain ⟨x, hx⟩ : ∃ x, τ[k]? = some x := ⟨_, List.getElem?_eq_getElem hk2⟩
    have hx8 := hτx x (List.mem_of_getElem? hx)
    have hlk : (τ.take k).length = k := by rw [List.length_take]; omega
    have e70 : m1 2147483649 k = nI x := by rw [h2 _ (by omega)]; exact ht k x hx
    obtain ⟨m2, k1, k2, k3⟩ := ask_ty (N := N) (x2 := nI 0) (x3 := nI 0) (x4 := nI 0) (x5 := nI 0) h1 hx8 (by omega)
    rw [hlk] at k1
    rw [← take_s' hx] at k2
    refine Or.inl ⟨m2, ⟨k2, fun c hc => by rw [k3 c hc, h2 c hc]⟩, ?_⟩
    show S_L_isBack_94 N (L_L_isBack_94 N g) m1 (nI i) (bI u) (nI w.length) (nI τ.length) (nI 1) (nI k) = _
    unfold S_L_isBack_94 B_L_isBack_133
    simp (disch := omega) only [zi_t, zi_f, bnd_t, zg_in, zx, nI_ltI, nI_leI, nI_eq, nI_add, pk_mul, pk_sub, mup_s, mup_c, mup_j, mrw_c, if_pos, if_neg, zm_1, zm_2, zm_3, zm_4, zm_5, zm_6, zm_7, zm_8, zm_9, zf_0, zf_1, zf_2, zf_3, zf_4, zf_5, zf_6, zf_7, zf_8, zf_9, zf_10, zf_14, zf_15, zf_16, zf_18, zf_19, zf_20, zf_24, zf_30, zf_31, zf_32, zf_33, zf_99, zf_100, zf_160, zf_200, zf_287, zf_288, zf_300, zf_1000, zf_1023, zf_1024, zf_1600, zf_3840, zf_25600, zf_36000, zf_1000000, zf_1000000000, zf_2000000000, zf_11560, za_1, za_2, za_4, za_5, za_6, za_7, za_8, za_9, za_10, za_11, za_12, za_14, za_15, za_22, za_23, za_25, za_26, za_27, za_28, za_29, za_30, za_31, za_32, za_33, za_34, za_35, za_41, za_42, za_43, za_44, za_45, za_46, za_47, za_48, za_49, za_61, za_62, za_63, za_64, za_65, za_70, e70]
    rw [clL_t k1]
    simp (disch := omega) only [zi_t, zi_f, bnd_t, zg_in, zx, nI_ltI, nI_leI, nI_eq, nI_add, pk_mul, pk_sub, mup_s, mup_c, mup_j, mrw_c, if_pos, if_neg, zm_1, zm_2, zm_3, zm_4, zm_5, zm_6, zm_7, zm_8, zm_9, zf_0, zf_1, zf_2, zf_3, zf_4, zf_5, zf_6, zf_7, zf_8, zf_9, zf_10, zf_14, zf_15, zf_16, zf_18, zf_19, zf_20, zf_24, zf_30, zf_31, zf_32, zf_33, zf_99, zf_100, zf_160, zf_200, zf_287, zf_288, zf_300, zf_1000, zf_1023, zf_1024, zf_1600, zf_3840, zf_25600, zf_36000, zf_1000000, zf_1000000000, zf_2000000000, zf_11560, za_1, za_2, za_4, za_5, za_6, za_7, za_8, za_9, za_10, za_11, za_12, za_14, za_15, za_22, za_23, za_25, za_26, za_27, za_28, za_29, za_30, za_31, za_32, za_33, za_34, za_35, za_41, za_42, za_43, za_44, za_45, za_46, za_47, za_48, za_49, za_61, za_62, za_63, za_64, za_65, za_70]
  · rintro g m1 ⟨h1, h2⟩
    rw [List.take_length] at h1
    obtain ⟨m', g1, g2, g3⟩ := bk_141 hN hV hk hL hin h1 (hw.cg (h2 70 (by omega)))
    refine ⟨m', ?_, g2, fun k hk => by rw [g3 k hk, h2 k hk]⟩
    show S_L_isBack_94 N (L_L_isBack_94 N g) m1 (nI i) (bI u) (nI w.length) (nI τ.length) (nI 1) (nI τ.length) = _
    unfold S_L_isBack_94
    simp (disch := omega) only [zi_t, zi_f, bnd_t, zg_in, zx, nI_ltI, nI_leI, nI_eq, nI_add, pk_mul, pk_sub, mup_s, mup_c, mup_j, mrw_c, if_pos, if_neg, zm_1, zm_2, zm_3, zm_4, zm_5, zm_6, zm_7, zm_8, zm_9, zf_0, zf_1, zf_2, zf_3, zf_4, zf_5, zf_6, zf_7, zf_8, zf_9, zf_10, zf_14, zf_15, zf_16, zf_18, zf_19, zf_20, zf_24, zf_30, zf_31, zf_32, zf_33, zf_99, zf_100, zf_160, zf_200, zf_287, zf_288, zf_300, zf_1000, zf_1023, zf_1024, zf_1600, zf_3840, zf_25600, zf_36000, zf_1000000, zf_1000000000, zf_2000000000, zf_11560, za_1, za_2, za_4, za_5, za_6, za_7, za_8, za_9, za_10, za_11, za_12, za_14, za_15, za_22, za_23, za_25, za_26, za_27, za_28, za_29, za_30, za_31, za_32, za_33, za_34, za_35, za_41, za_42, za_43, za_44, za_45, za_46, za_47, za_48, za_49, za_61, za_62, za_63, za_64, za_65, za_70]
    exact g1
theorem bk_48 (hN : 40000 < N) (hV : InV Ms w ls) {Au : List (List Nat)} {βu : List Nat} {cu : Int32} {a : Nat} (hku : LkA N Ms w ls i u Au βu cu) (hLu : Look u n f L w Au) (ha : a < Au.length) (hτ : τ = (Au.getD a []).reverse) (hτl : τ.length ≤ 8) (hτx : ∀ x, x ∈ τ → x < 8) (hk : LkA N Ms τ ls i (!u) A β ck) (hL : Look (!u) n f L τ A) (hin : A.length < 20 → w.reverse ∈ A) {m : Mem} (hC : InC m Ms w ls) (hw : WdM m w) :
    ∃ m', L_L_isBack_48 N N m (nI i) (bI u) (nI a) (nI w.length) (nI τ.length) (nI 0) = some (nI 1, m') ∧ InC m' Ms w ls ∧ ∀ k, 64 ≤ k → k < 200 → m' k = m k := by
  have v1 := hV.1
  have hA20 := hLu.1
  refine loopF (fun g (m : Mem) k => L_L_isBack_48 N g m (nI i) (bI u) (nI a) (nI w.length) (nI τ.length) (nI k)) τ.length (fun k m' => InC m' Ms w ls ∧ (∀ c, 64 ≤ c → c < 200 → m' c = m c) ∧ ∀ j x, j < k → τ[j]? = some x → m' 2147483649 j = nI x) (fun o => ∃ m', o = some (nI 1, m') ∧ InC m' Ms w ls ∧ ∀ k, 64 ≤ k → k < 200 → m' k = m k) ?_ ?_ N 0 m (Nat.zero_le _) ⟨hC, fun _ _ _ => rfl, fun j x hj => absurd hj (Nat.not_lt_zero _)⟩ (by omega)
  · rintro g k m1 hk2 ⟨h1, h2, h3⟩
    obtain ⟨x, hx⟩ : ∃ x, τ[k]? = some x := ⟨_, List.getElem?_eq_getElem hk2⟩
    have hx8 := hτx x (List.mem_of_getElem? hx)
    obtain ⟨ma, p1, p2, p3⟩ := lk_at hku h1 ha hA20 (p := k) (by omega)
    have ex : ltP (Au.getD a []) k = x := ltP_rv (by rw [← hτ]; exact hx)
    rw [ex] at p1
    refine Or.inl ⟨mup ma 2147483649 k (nI x), ⟨p2.lo v1 (fun c hc => mup_r (by omega)), fun c c1 c2 => by rw [mup_r (by omega), p3 c c1, h2 c c1 c2], fun j y hj hy => ?_⟩, ?_⟩
    · by_cases e : j = k
      · subst e
        rw [hx] at hy
        rw [← Option.some.inj hy, mup_s]
      · rw [mup_j e, p3 _ (by omega)]
        exact h3 j y (by omega) hy
    · show S_L_isBack_48 N (L_L_isBack_48 N g) m1 (nI i) (bI u) (nI a) (nI w.length) (nI τ.length) (nI k) = _
      unfold S_L_isBack_48
      simp (disch := omega) only [zi_t, zi_f, bnd_t, zg_in, zx, nI_ltI, nI_leI, nI_eq, nI_add, pk_mul, pk_sub, mup_s, mup_c, mup_j, mrw_c, if_pos, if_neg, zm_1, zm_2, zm_3, zm_4, zm_5, zm_6, zm_7, zm_8, zm_9, zf_0, zf_1, zf_2, zf_3, zf_4, zf_5, zf_6, zf_7, zf_8, zf_9, zf_10, zf_14, zf_15, zf_16, zf_18, zf_19, zf_20, zf_24, zf_30, zf_31, zf_32, zf_33, zf_99, zf_100, zf_160, zf_200, zf_287, zf_288, zf_300, zf_1000, zf_1023, zf_1024, zf_1600, zf_3840, zf_25600, zf_36000, zf_1000000, zf_1000000000, zf_2000000000, zf_11560, za_1, za_2, za_4, za_5, za_6, za_7, za_8, za_9, za_10, za_11, za_12, za_14, za_15, za_22, za_23, za_25, za_26, za_27, za_28, za_29, za_30, za_31, za_32, za_33, za_34, za_35, za_41, za_42, za_43, za_44, za_45, za_46, za_47, za_48, za_49, za_61, za_62, za_63, za_64, za_65, za_70]
      rw [clL_t p1]
  · rintro g m1 ⟨h1, h2, h3⟩
    obtain ⟨m2, k1, k2, k3⟩ := as_clearQ (N := N) h1
    have hw2 : WdM m2 w := (hw.cg (h2 70 (by omega) (by omega))).cg (k3 70 (by omega))
    obtain ⟨m', g1, g2, g3⟩ := bk_94 hN hV hτl hτx hk hL hin k2 hw2 (fun j x hx => by
      rw [k3 _ (by omega)]
      exact h3 j x (List.getElem?_eq_some_iff.mp hx).1 hx)
    refine ⟨m', ?_, g2, fun k c1 c2 => by rw [g3 k c1, k3 k c1, h2 k c1 c2]⟩
    show S_L_isBack_48 N (L_L_isBack_48 N g) m1 (nI i) (bI u) (nI a) (nI w.length) (nI τ.length) (nI τ.length) = _
    unfold S_L_isBack_48 B_L_isBack_89
    simp (disch := omega) only [zi_t, zi_f, bnd_t, zg_in, zx, nI_ltI, nI_leI, nI_eq, nI_add, pk_mul, pk_sub, mup_s, mup_c, mup_j, mrw_c, if_pos, if_neg, zm_1, zm_2, zm_3, zm_4, zm_5, zm_6, zm_7, zm_8, zm_9, zf_0, zf_1, zf_2, zf_3, zf_4, zf_5, zf_6, zf_7, zf_8, zf_9, zf_10, zf_14, zf_15, zf_16, zf_18, zf_19, zf_20, zf_24, zf_30, zf_31, zf_32, zf_33, zf_99, zf_100, zf_160, zf_200, zf_287, zf_288, zf_300, zf_1000, zf_1023, zf_1024, zf_1600, zf_3840, zf_25600, zf_36000, zf_1000000, zf_1000000000, zf_2000000000, zf_11560, za_1, za_2, za_4, za_5, za_6, za_7, za_8, za_9, za_10, za_11, za_12, za_14, za_15, za_22, za_23, za_25, za_26, za_27, za_28, za_29, za_30, za_31, za_32, za_33, za_34, za_35, za_41, za_42, za_43, za_44, za_45, za_46, za_47, za_48, za_49, za_61, za_62, za_63, za_64, za_65, za_70]
    rw [cal_t k1]
    simp (disch := omega) only [zi_t, zi_f, bnd_t, zg_in, zx, nI_ltI, nI_leI, nI_eq, nI_add, pk_mul, pk_sub, mup_s, mup_c, mup_j, mrw_c, if_pos, if_neg, zm_1, zm_2, zm_3, zm_4, zm_5, zm_6, zm_7, zm_8, zm_9, zf_0, zf_1, zf_2, zf_3, zf_4, zf_5, zf_6, zf_7, zf_8, zf_9, zf_10, zf_14, zf_15, zf_16, zf_18, zf_19, zf_20, zf_24, zf_30, zf_31, zf_32, zf_33, zf_99, zf_100, zf_160, zf_200, zf_287, zf_288, zf_300, zf_1000, zf_1023, zf_1024, zf_1600, zf_3840, zf_25600, zf_36000, zf_1000000, zf_1000000000, zf_2000000000, zf_11560, za_1, za_2, za_4, za_5, za_6, za_7, za_8, za_9, za_10, za_11, za_12, za_14, za_15, za_22, za_23, za_25, za_26, za_27, za_28, za_29, za_30, za_31, za_32, za_33, za_34, za_35, za_41, za_42, za_43, za_44, za_45, za_46, za_47, za_48, za_49, za_61, za_62, za_63, za_64, za_65, za_70]
    exact g1
end BACK2
/-- what is told looking one way is told back looking the other way -/
theorem as_isBack {N : Nat} {Ms : List Ma} {w : List Nat} {ls : Ls} {i n a : Nat} {u : Bool} {f : Nat → Bool} {L : ArL} {Au : List (List Nat)} {βu : List Nat} {cu : Int32} (hN : 40000 < N) (hV : InV Ms w ls) (gA : Ms[i]? = some (n, f, L)) (hku : LkA N Ms w ls i u Au βu cu) (hLu : Look u n f L w Au) (ha : a < Au.length) {m : Mem} (hC : InC m Ms w ls) (hw : WdM m w) :
    ∃ m', F_L_isBack N m (nI i) (bI u) (nI a) (nI w.length) = some (nI 1, m') ∧ InC m' Ms w ls ∧ ∀ k, 64 ≤ k → k < 200 → m' k = m k := by
  have v1 := hV.1
  have v4 := hV.2.2.2.1
  have hA20 := hLu.1
  obtain ⟨hm1, hm2⟩ := gD_mem ha
  obtain ⟨r1, r2, r3⟩ := hLu.2.2.1 _ hm2
  obtain ⟨m1, hmm⟩ : ∃ m1, m1 = mrw m 2147483649 (fun _ => nI 0) := ⟨_, rfl⟩
  have hf1 : ∀ k, k < 300 → m1 k = m k := fun k hk => by
    rw [hmm]; unfold mrw; rw [if_neg (by omega)]
  have hC1 : InC m1 Ms w ls := hC.lo v1 hf1
  have go : ∃ m', L_L_isBack_9 N N m1 (nI i) (bI u) (nI a) (nI w.length) (nI 0) = some (nI 1, m') ∧ InC m' Ms w ls ∧ ∀ k, 64 ≤ k → k < 200 → m' k = m1 k := by
    refine loopF (fun g (m : Mem) k => L_L_isBack_9 N g m (nI i) (bI u) (nI a) (nI w.length) (nI k)) (min 9 (Au.getD a []).length) (fun k m' => InC m' Ms w ls ∧ ∀ c, 64 ≤ c → m' c = m1 c) (fun o => ∃ m', o = some (nI 1, m') ∧ InC m' Ms w ls ∧ ∀ k, 64 ≤ k → k < 200 → m' k = m1 k) ?_ ?_ N 0 m1 (Nat.zero_le _) ⟨hC1, fun _ _ => rfl⟩ (by omega)
    · rintro g k m2 hk2 ⟨h1, h2⟩
      obtain ⟨ma, p1, p2, p3⟩ := lk_at hku h1 ha hA20 (p := k) (by omega)
      have hx8 : ltP (Au.getD a []) k < 8 := by
        unfold ltP
        rw [if_pos (by omega), List.getD_eq_getElem?_getD, List.getElem?_eq_getElem (by omega)]
        exact r2 _ (List.getElem_mem _)
      refine Or.inl ⟨ma, ⟨p2, fun c hc => by rw [p3 c hc, h2 c hc]⟩, ?_⟩
      show S_L_isBack_9 N (L_L_isBack_9 N g) m2 (nI i) (bI u) (nI a) (nI w.length) (nI k) = _
      unfold S_L_isBack_9
      simp (disch := omega) only [zi_t, zi_f, bnd_t, zg_in, zx, nI_ltI, nI_leI, nI_eq, nI_add, pk_mul, pk_sub, mup_s, mup_c, mup_j, mrw_c, if_pos, if_neg, zm_1, zm_2, zm_3, zm_4, zm_5, zm_6, zm_7, zm_8, zm_9, zf_0, zf_1, zf_2, zf_3, zf_4, zf_5, zf_6, zf_7, zf_8, zf_9, zf_10, zf_14, zf_15, zf_16, zf_18, zf_19, zf_20, zf_24, zf_30, zf_31, zf_32, zf_33, zf_99, zf_100, zf_160, zf_200, zf_287, zf_288, zf_300, zf_1000, zf_1023, zf_1024, zf_1600, zf_3840, zf_25600, zf_36000, zf_1000000, zf_1000000000, zf_2000000000, zf_11560, za_1, za_2, za_4, za_5, za_6, za_7, za_8, za_9, za_10, za_11, za_12, za_14, za_15, za_22, za_23, za_25, za_26, za_27, za_28, za_29, za_30, za_31, za_32, za_33, za_34, za_35, za_41, za_42, za_43, za_44, za_45, za_46, za_47, za_48, za_49, za_61, za_62, za_63, za_64, za_65, za_70]
      rw [clL_t p1]
      simp (disch := omega) only [zi_t, zi_f, bnd_t, zg_in, zx, nI_ltI, nI_leI, nI_eq, nI_add, pk_mul, pk_sub, mup_s, mup_c, mup_j, mrw_c, if_pos, if_neg, zm_1, zm_2, zm_3, zm_4, zm_5, zm_6, zm_7, zm_8, zm_9, zf_0, zf_1, zf_2, zf_3, zf_4, zf_5, zf_6, zf_7, zf_8, zf_9, zf_10, zf_14, zf_15, zf_16, zf_18, zf_19, zf_20, zf_24, zf_30, zf_31, zf_32, zf_33, zf_99, zf_100, zf_160, zf_200, zf_287, zf_288, zf_300, zf_1000, zf_1023, zf_1024, zf_1600, zf_3840, zf_25600, zf_36000, zf_1000000, zf_1000000000, zf_2000000000, zf_11560, za_1, za_2, za_4, za_5, za_6, za_7, za_8, za_9, za_10, za_11, za_12, za_14, za_15, za_22, za_23, za_25, za_26, za_27, za_28, za_29, za_30, za_31, za_32, za_33, za_34, za_35, za_41, za_42, za_43, za_44, za_45, za_46, za_47, za_48, za_49, za_61, za_62, za_63, za_64, za_65, za_70]
    · rintro g m2 ⟨h1, h2⟩
      rcases Nat.lt_or_ge 8 (Au.getD a []).length with e | e
      · rw [Nat.min_eq_left (by omega)]
        refine ⟨m2, ?_, h1, fun k c1 _ => h2 k c1⟩
        show S_L_isBack_9 N (L_L_isBack_9 N g) m2 (nI i) (bI u) (nI a) (nI w.length) (nI 9) = _
        unfold S_L_isBack_9 B_L_isBack_36
        simp (disch := omega) only [zi_t, zi_f, bnd_t, zg_in, zx, nI_ltI, nI_leI, nI_eq, nI_add, pk_mul, pk_sub, mup_s, mup_c, mup_j, mrw_c, if_pos, if_neg, zm_1, zm_2, zm_3, zm_4, zm_5, zm_6, zm_7, zm_8, zm_9, zf_0, zf_1, zf_2, zf_3, zf_4, zf_5, zf_6, zf_7, zf_8, zf_9, zf_10, zf_14, zf_15, zf_16, zf_18, zf_19, zf_20, zf_24, zf_30, zf_31, zf_32, zf_33, zf_99, zf_100, zf_160, zf_200, zf_287, zf_288, zf_300, zf_1000, zf_1023, zf_1024, zf_1600, zf_3840, zf_25600, zf_36000, zf_1000000, zf_1000000000, zf_2000000000, zf_11560, za_1, za_2, za_4, za_5, za_6, za_7, za_8, za_9, za_10, za_11, za_12, za_14, za_15, za_22, za_23, za_25, za_26, za_27, za_28, za_29, za_30, za_31, za_32, za_33, za_34, za_35, za_41, za_42, za_43, za_44, za_45, za_46, za_47, za_48, za_49, za_61, za_62, za_63, za_64, za_65, za_70]
      · rw [Nat.min_eq_right (by omega)]
        obtain ⟨ma, p1, p2, p3⟩ := lk_at hku h1 ha hA20 (p := (Au.getD a []).length) (by omega)
        rw [ltP_end _ (Nat.le_refl _)] at p1
        obtain ⟨τ, hτ⟩ : ∃ τ, τ = (Au.getD a []).reverse := ⟨_, rfl⟩
        have hτl : τ.length = (Au.getD a []).length := by rw [hτ, List.length_reverse]
        have hτx : ∀ x, x ∈ τ → x < 8 := fun x hx => r2 x (by rw [hτ] at hx; exact List.mem_reverse.mp hx)
        have hVτ : InV Ms τ ls := ⟨hV.1, hV.2.1, by omega, hτx, hV.2.2.2.2⟩
        obtain ⟨A, β, ck, l1, l2, l3, l4, l5⟩ := as_look (u := !u) hVτ gA
        have hk : LkA N Ms τ ls i (!u) A β ck := fun m hm => l5 N m hN hm
        have hin : A.length < 20 → w.reverse ∈ A := fun h => l1.2.2.2 h _ (fun z hz => v4 z (List.mem_reverse.mp hz)) (by
          rw [hτ]; exact r3.sym)
        have hwa : WdM ma w := ((hw.cg (hf1 70 (by omega))).cg (h2 70 (by omega))).cg (p3 70 (by omega))
        rw [← hτl] at p1 e ⊢
        obtain ⟨m', g1, g2, g3⟩ := bk_48 hN hV hku hLu ha hτ (by omega) hτx hk l1 hin p2 hwa
        refine ⟨m', ?_, g2, fun k c1 c2 => by rw [g3 k c1 c2, p3 k c1, h2 k c1]⟩
        show S_L_isBack_9 N (L_L_isBack_9 N g) m2 (nI i) (bI u) (nI a) (nI w.length) (nI τ.length) = _
        unfold S_L_isBack_9 B_L_isBack_36
        simp (disch := omega) only [zi_t, zi_f, bnd_t, zg_in, zx, nI_ltI, nI_leI, nI_eq, nI_add, pk_mul, pk_sub, mup_s, mup_c, mup_j, mrw_c, if_pos, if_neg, zm_1, zm_2, zm_3, zm_4, zm_5, zm_6, zm_7, zm_8, zm_9, zf_0, zf_1, zf_2, zf_3, zf_4, zf_5, zf_6, zf_7, zf_8, zf_9, zf_10, zf_14, zf_15, zf_16, zf_18, zf_19, zf_20, zf_24, zf_30, zf_31, zf_32, zf_33, zf_99, zf_100, zf_160, zf_200, zf_287, zf_288, zf_300, zf_1000, zf_1023, zf_1024, zf_1600, zf_3840, zf_25600, zf_36000, zf_1000000, zf_1000000000, zf_2000000000, zf_11560, za_1, za_2, za_4, za_5, za_6, za_7, za_8, za_9, za_10, za_11, za_12, za_14, za_15, za_22, za_23, za_25, za_26, za_27, za_28, za_29, za_30, za_31, za_32, za_33, za_34, za_35, za_41, za_42, za_43, za_44, za_45, za_46, za_47, za_48, za_49, za_61, za_62, za_63, za_64, za_65, za_70]
        rw [clL_t p1]
        simp (disch := omega) only [zi_t, zi_f, bnd_t, zg_in, zx, nI_ltI, nI_leI, nI_eq, nI_add, pk_mul, pk_sub, mup_s, mup_c, mup_j, mrw_c, if_pos, if_neg, zm_1, zm_2, zm_3, zm_4, zm_5, zm_6, zm_7, zm_8, zm_9, zf_0, zf_1, zf_2, zf_3, zf_4, zf_5, zf_6, zf_7, zf_8, zf_9, zf_10, zf_14, zf_15, zf_16, zf_18, zf_19, zf_20, zf_24, zf_30, zf_31, zf_32, zf_33, zf_99, zf_100, zf_160, zf_200, zf_287, zf_288, zf_300, zf_1000, zf_1023, zf_1024, zf_1600, zf_3840, zf_25600, zf_36000, zf_1000000, zf_1000000000, zf_2000000000, zf_11560, za_1, za_2, za_4, za_5, za_6, za_7, za_8, za_9, za_10, za_11, za_12, za_14, za_15, za_22, za_23, za_25, za_26, za_27, za_28, za_29, za_30, za_31, za_32, za_33, za_34, za_35, za_41, za_42, za_43, za_44, za_45, za_46, za_47, za_48, za_49, za_61, za_62, za_63, za_64, za_65, za_70]
        exact g1
  obtain ⟨m', h1, h2, h3⟩ := go
  refine ⟨m', ?_, h2, fun k c1 c2 => by rw [h3 k c1 c2, hf1 k (by omega)]⟩
  unfold F_L_isBack
  simp (disch := omega) only [zi_t, zi_f, bnd_t, zg_in, zx, nI_ltI, nI_leI, nI_eq, nI_add, pk_mul, pk_sub, mup_s, mup_c, mup_j, mrw_c, if_pos, if_neg, zm_1, zm_2, zm_3, zm_4, zm_5, zm_6, zm_7, zm_8, zm_9, zf_0, zf_1, zf_2, zf_3, zf_4, zf_5, zf_6, zf_7, zf_8, zf_9, zf_10, zf_14, zf_15, zf_16, zf_18, zf_19, zf_20, zf_24, zf_30, zf_31, zf_32, zf_33, zf_99, zf_100, zf_160, zf_200, zf_287, zf_288, zf_300, zf_1000, zf_1023, zf_1024, zf_1600, zf_3840, zf_25600, zf_36000, zf_1000000, zf_1000000000, zf_2000000000, zf_11560, za_1, za_2, za_4, za_5, za_6, za_7, za_8, za_9, za_10, za_11, za_12, za_14, za_15, za_22, za_23, za_25, za_26, za_27, za_28, za_29, za_30, za_31, za_32, za_33, za_34, za_35, za_41, za_42, za_43, za_44, za_45, za_46, za_47, za_48, za_49, za_61, za_62, za_63, za_64, za_65, za_70]
  rw [← h1, hmm]
