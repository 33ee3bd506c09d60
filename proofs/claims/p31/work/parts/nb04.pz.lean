theorem Rc.case {R : Nat → Nat → Prop} {s t : Nat} (h : Rc R s t) : t = s ∨ ∃ y, R s y ∧ Rc R y t := by
  refine h.cl (S := fun t => t = s ∨ ∃ y, R s y ∧ Rc R y t) (Or.inl rfl) ?_
  rintro x z (rfl | ⟨y, h1, h2⟩) hr
  · exact Or.inr ⟨z, hr, Rc.rf⟩
  · exact Or.inr ⟨y, h1, h2.st hr⟩
def SP (m : Mem) (a n : Nat) (e : Int32) (L : ArL) : Prop := m a 2 = nI n ∧ m a 3 = e ∧ (∀ s, s < n → ∀ t, t < 32 → (tb (m (a + 1) s) t = true ↔ Rc (eps L) s t)) ∧ ∀ s x, s < n → x < 8 → ∀ t, t < 32 → (tb (m (a + 2) (s * 8 + x)) t = true ↔ ∃ q, q ∈ L ∧ fr q.1 = s ∧ upr q.1 = x ∧ Rc (eps L) (too q.1) t)
def CSnd (C : Nat → Int32) (n : Nat) (L : ArL) : Prop := ∀ s, s < n → tb (C s) s = true ∧ ∀ t, t < 32 → tb (C s) t = true → Rc (eps L) s t
theorem cl_cpass {N a a1 n k : Nat} {e : Int32} {m1 : Mem} {L : ArL} {rec : Mem → Nat → Nat → Int32 → Int32 → Option Mem} (hN : 40000 < N) (ha : a + 3 ≤ 30) (ha1 : 200 ≤ a1) (hal : alen (a + 1) = 32) (hC : MC m1 a1 n e L) (hok : DOK n L) (hn : n ≤ 32) (hl : L.length ≤ 160) (hk : k < 100) (hs : CSnd (m1 (a + 1)) n L) :
    ∃ m' fl, L_X6_findClosures_46 N rec N m1 a a1 (nI 0) (nI k) (nI 0) = rec m' a a1 (bI fl) (nI (k + 1)) ∧ Off (a + 1) (a + 2) m1 m' ∧ CSnd (m' (a + 1)) n L ∧ (∀ s t, s < n → tb (m1 (a + 1) s) t = true → tb (m' (a + 1) s) t = true) ∧ (∀ q, q ∈ L → upr q.1 = 8 → ∀ t, tb (m1 (a + 1) (too q.1)) t = true → tb (m' (a + 1) (fr q.1)) t = true) ∧ (fl = false → m' = m1) := by
  refine loopF (σ := Mem × Bool) (fun f s j => L_X6_findClosures_46 N rec f s.1 a a1 (bI s.2) (nI k) (nI j)) L.length
    (fun j s => Off (a + 1) (a + 2) m1 s.1 ∧ CSnd (s.1 (a + 1)) n L ∧ (∀ x t, x < n → tb (m1 (a + 1) x) t = true → tb (s.1 (a + 1) x) t = true) ∧ (∀ q, q ∈ L.take j → upr q.1 = 8 → ∀ t, tb (m1 (a + 1) (too q.1)) t = true → tb (s.1 (a + 1) (fr q.1)) t = true) ∧ (s.2 = false → s.1 = m1))
    (fun o => ∃ m' fl, o = rec m' a a1 (bI fl) (nI (k + 1)) ∧ Off (a + 1) (a + 2) m1 m' ∧ CSnd (m' (a + 1)) n L ∧ (∀ s t, s < n → tb (m1 (a + 1) s) t = true → tb (m' (a + 1) s) t = true) ∧ (∀ q, q ∈ L → upr q.1 = 8 → ∀ t, tb (m1 (a + 1) (too q.1)) t = true → tb (m' (a + 1) (fr q.1)) t = true) ∧ (fl = false → m' = m1)) ?_ ?_ N 0 (m1, false) (Nat.zero_le _) ⟨Off.rf, hs, fun _ _ _ h => h, fun q hq => (by cases hq), fun _ => rfl⟩ (by omega)
  · rintro f j ⟨m2, fl⟩ hj ⟨i1, i2, i3, i4, i5⟩
    dsimp only at i1 i2 i3 i4 i5
    obtain ⟨q, hq⟩ : ∃ q, L[j]? = some q := ⟨_, List.getElem?_eq_getElem hj⟩
    have hqL := List.mem_of_getElem? hq
    have hqm := hok q hqL
    have hq1 := hqm.1
    have hq2 : q.1 / 262144 < n := hqm.2.1
    have hq3 : q.1 % 1024 < n := hqm.2.2.1
    have hq4 : q.1 / 16384 % 16 ≤ 8 := hqm.2.2.2.1
    have e1 := (i1.at (k := a1 + 1) (by omega) 2).trans hC.2.2.1
    have e2 := (i1.at (k := a1 + 1 + 1) (by omega) j).trans (hC.2.2.2 j q hq).1
    have hlast : ∀ c, c ∈ L.take (j + 1) → c ∈ L.take j ∨ c = q := by
      intro c hc
      rw [List.take_add_one, hq] at hc
      rcases List.mem_append.mp hc with e | e
      · exact Or.inl e
      · exact Or.inr (List.mem_singleton.mp e)
    obtain ⟨y, hy⟩ : ∃ y, y = m2 (a + 1) (q.1 / 262144) ||| m2 (a + 1) (q.1 % 1024) := ⟨_, rfl⟩
    refine Or.inl ?_
    show ∃ s', _ ∧ S_X6_findClosures_46 N rec (L_X6_findClosures_46 N rec f) m2 a a1 (bI fl) (nI k) (nI j) = _
    unfold S_X6_findClosures_46 B_X6_findClosures_132
    by_cases c : q.1 / 16384 % 16 = 8
    · by_cases c2 : y = m2 (a + 1) (q.1 / 262144)
      · refine ⟨(m2, fl), ⟨i1, i2, i3, fun x hx h8 t ht => ?_, i5⟩, ?_⟩
        · rcases hlast x hx with e | rfl
          · exact i4 x e h8 t ht
          · have h3 := i3 (too x.1) t hq3 ht
            show tb (m2 (a + 1) (x.1 / 262144)) t = true
            rw [← c2, hy, tb_or]
            have h3 : tb (m2 (a + 1) (x.1 % 1024)) t = true := h3
            rw [h3, Bool.or_true]
        · rw [hy] at c2
          simp (disch := omega) only [zi_t, zi_f, bnd_t, zg_in, zx, nI_ltI, nI_leI, nI_eq, nI_add, pk_mul, pk_sub, mup_s, mup_c, mup_j, mrw_c, if_pos, if_neg, zm_1, zm_2, zm_3, zm_4, zm_5, zm_6, zm_7, zm_8, zm_9, zf_0, zf_1, zf_2, zf_3, zf_4, zf_5, zf_6, zf_7, zf_8, zf_9, zf_10, zf_14, zf_15, zf_16, zf_18, zf_19, zf_20, zf_24, zf_30, zf_31, zf_32, zf_33, zf_99, zf_100, zf_160, zf_200, zf_287, zf_288, zf_300, zf_1000, zf_1023, zf_1024, zf_1600, zf_3840, zf_25600, zf_36000, zf_1000000, zf_1000000000, zf_2000000000, zf_11560, za_1, za_2, za_4, za_5, za_6, za_7, za_8, za_9, za_10, za_11, za_12, za_14, za_15, za_22, za_23, za_25, za_26, za_27, za_28, za_29, za_30, za_31, za_32, za_33, za_34, za_35, za_41, za_42, za_43, za_44, za_45, za_46, za_47, za_48, za_49, za_61, za_62, za_63, za_64, za_65, za_70, e1, e2, alen_hi, hal, pk_from, pk_to, pk_upper, c, c2]
      · refine ⟨(mup m2 (a + 1) (q.1 / 262144) y, true), ⟨i1.up (by omega) (by omega), ?_, ?_, ?_, fun h => (by cases h)⟩, ?_⟩
        · intro s hs2
          show tb (mup m2 (a + 1) (q.1 / 262144) y (a + 1) s) s = true ∧ _
          rw [mup_if]
          by_cases es : s = q.1 / 262144
          · rw [if_pos es]
            refine ⟨?_, fun t ht h => ?_⟩
            · rw [hy, tb_or, es, (i2 (q.1 / 262144) hq2).1, Bool.true_or]
            · have h : tb (mup m2 (a + 1) (q.1 / 262144) y (a + 1) s) t = true := h
              rw [mup_if, if_pos es, hy, tb_or, Bool.or_eq_true] at h
              rcases h with h | h
              · rw [es]; exact (i2 _ hq2).2 t ht h
              · rw [es]
                exact Rc.hd ⟨q, hqL, decide_eq_true c, rfl, rfl⟩ ((i2 _ hq3).2 t ht h)
          · rw [if_neg es]
            refine ⟨(i2 s hs2).1, fun t ht h => ?_⟩
            have h : tb (mup m2 (a + 1) (q.1 / 262144) y (a + 1) s) t = true := h
            rw [mup_if, if_neg es] at h
            exact (i2 s hs2).2 t ht h
        · intro x t hx h
          have := i3 x t hx h
          show tb (mup m2 (a + 1) (q.1 / 262144) y (a + 1) x) t = true
          rw [mup_if]
          by_cases es : x = q.1 / 262144
          · rw [if_pos es, hy, tb_or, ← es, this, Bool.true_or]
          · rw [if_neg es]; exact this
        · intro x hx h8 t ht
          show tb (mup m2 (a + 1) (q.1 / 262144) y (a + 1) (fr x.1)) t = true
          rw [mup_if]
          rcases hlast x hx with e | rfl
          · have := i4 x e h8 t ht
            by_cases es : fr x.1 = q.1 / 262144
            · rw [if_pos es, hy, tb_or, ← es, this, Bool.true_or]
            · rw [if_neg es]; exact this
          · rw [if_pos (show fr x.1 = x.1 / 262144 from rfl), hy, tb_or]
            have h3 : tb (m2 (a + 1) (x.1 % 1024)) t = true := i3 (too x.1) t hq3 ht
            rw [h3, Bool.or_true]
        · have c3 : (m2 (a + 1) (q.1 / 262144) ||| m2 (a + 1) (q.1 % 1024) = m2 (a + 1) (q.1 / 262144)) = False := by rw [← hy]; exact eq_false c2
          simp (disch := omega) only [zi_t, zi_f, bnd_t, zg_in, zx, nI_ltI, nI_leI, nI_eq, nI_add, pk_mul, pk_sub, mup_s, mup_c, mup_j, mrw_c, if_pos, if_neg, zm_1, zm_2, zm_3, zm_4, zm_5, zm_6, zm_7, zm_8, zm_9, zf_0, zf_1, zf_2, zf_3, zf_4, zf_5, zf_6, zf_7, zf_8, zf_9, zf_10, zf_14, zf_15, zf_16, zf_18, zf_19, zf_20, zf_24, zf_30, zf_31, zf_32, zf_33, zf_99, zf_100, zf_160, zf_200, zf_287, zf_288, zf_300, zf_1000, zf_1023, zf_1024, zf_1600, zf_3840, zf_25600, zf_36000, zf_1000000, zf_1000000000, zf_2000000000, zf_11560, za_1, za_2, za_4, za_5, za_6, za_7, za_8, za_9, za_10, za_11, za_12, za_14, za_15, za_22, za_23, za_25, za_26, za_27, za_28, za_29, za_30, za_31, za_32, za_33, za_34, za_35, za_41, za_42, za_43, za_44, za_45, za_46, za_47, za_48, za_49, za_61, za_62, za_63, za_64, za_65, za_70, e1, e2, alen_hi, hal, pk_from, pk_to, pk_upper, c, c3]
          rw [hy]
          rfl
    · refine ⟨(m2, fl), ⟨i1, i2, i3, fun x hx h8 t ht => ?_, i5⟩, ?_⟩
      · rcases hlast x hx with e | rfl
        · exact i4 x e h8 t ht
        · exact absurd h8 c
      · simp (disch := omega) only [zi_t, zi_f, bnd_t, zg_in, zx, nI_ltI, nI_leI, nI_eq, nI_add, pk_mul, pk_sub, mup_s, mup_c, mup_j, mrw_c, if_pos, if_neg, zm_1, zm_2, zm_3, zm_4, zm_5, zm_6, zm_7, zm_8, zm_9, zf_0, zf_1, zf_2, zf_3, zf_4, zf_5, zf_6, zf_7, zf_8, zf_9, zf_10, zf_14, zf_15, zf_16, zf_18, zf_19, zf_20, zf_24, zf_30, zf_31, zf_32, zf_33, zf_99, zf_100, zf_160, zf_200, zf_287, zf_288, zf_300, zf_1000, zf_1023, zf_1024, zf_1600, zf_3840, zf_25600, zf_36000, zf_1000000, zf_1000000000, zf_2000000000, zf_11560, za_1, za_2, za_4, za_5, za_6, za_7, za_8, za_9, za_10, za_11, za_12, za_14, za_15, za_22, za_23, za_25, za_26, za_27, za_28, za_29, za_30, za_31, za_32, za_33, za_34, za_35, za_41, za_42, za_43, za_44, za_45, za_46, za_47, za_48, za_49, za_61, za_62, za_63, za_64, za_65, za_70, e1, e2, alen_hi, hal, pk_from, pk_to, pk_upper]
  · rintro f ⟨m2, fl⟩ ⟨i1, i2, i3, i4, i5⟩
    dsimp only at i1 i2 i3 i4 i5
    rw [List.take_of_length_le (Nat.le_refl _)] at i4
    have e1 := (i1.at (k := a1 + 1) (by omega) 2).trans hC.2.2.1
    refine ⟨m2, fl, ?_, i1, i2, i3, i4, i5⟩
    show S_X6_findClosures_46 N rec (L_X6_findClosures_46 N rec f) m2 a a1 (bI fl) (nI k) (nI L.length) = _
    unfold S_X6_findClosures_46
    simp (disch := omega) only [zi_t, zi_f, bnd_t, zg_in, zx, nI_ltI, nI_leI, nI_eq, nI_add, pk_mul, pk_sub, mup_s, mup_c, mup_j, mrw_c, if_pos, if_neg, zm_1, zm_2, zm_3, zm_4, zm_5, zm_6, zm_7, zm_8, zm_9, zf_0, zf_1, zf_2, zf_3, zf_4, zf_5, zf_6, zf_7, zf_8, zf_9, zf_10, zf_14, zf_15, zf_16, zf_18, zf_19, zf_20, zf_24, zf_30, zf_31, zf_32, zf_33, zf_99, zf_100, zf_160, zf_200, zf_287, zf_288, zf_300, zf_1000, zf_1023, zf_1024, zf_1600, zf_3840, zf_25600, zf_36000, zf_1000000, zf_1000000000, zf_2000000000, zf_11560, za_1, za_2, za_4, za_5, za_6, za_7, za_8, za_9, za_10, za_11, za_12, za_14, za_15, za_22, za_23, za_25, za_26, za_27, za_28, za_29, za_30, za_31, za_32, za_33, za_34, za_35, za_41, za_42, za_43, za_44, za_45, za_46, za_47, za_48, za_49, za_61, za_62, za_63, za_64, za_65, za_70, e1]
theorem cl_closures {N a a1 n : Nat} {e : Int32} {m : Mem} {L : ArL} (hN : 40000 < N) (ha : a + 3 ≤ 30) (ha1 : 200 ≤ a1) (hal : alen (a + 1) = 32) (hC : MC m a1 n e L) (h2 : m a 2 = nI n) (hok : DOK n L) (hn : n ≤ 32) (hl : L.length ≤ 160) (hacy : Acy upr L) :
    ∃ m', F_X6_findClosures N m a a1 = some m' ∧ Off (a + 1) (a + 2) m m' ∧ ∀ s, s < n → ∀ t, t < 32 → (tb (m' (a + 1) s) t = true ↔ Rc (eps L) s t) := by
  obtain ⟨r, _, r2, r3⟩ := acy_bd hacy hok
  have hl32 := hok.l32 hn
  unfold F_X6_findClosures
  refine loopF (fun f (m : Mem) i => L_X6_findClosures_2 N f m a a1 (nI i)) n (fun i m' => Off (a + 1) (a + 2) m m' ∧ ∀ s, s < i → m' (a + 1) s = q_shl (nI 1) (nI s)) (fun o => ∃ m', o = some m' ∧ Off (a + 1) (a + 2) m m' ∧ ∀ s, s < n → ∀ t, t < 32 → (tb (m' (a + 1) s) t = true ↔ Rc (eps L) s t)) ?_ ?_ N 0 m (Nat.zero_le _) ⟨Off.rf, fun s hs => absurd hs (Nat.not_lt_zero _)⟩ (by omega)
  · rintro f i m1 hi ⟨i1, i2⟩
    have e1 := (i1.at (k := a) (by omega) 2).trans h2
    refine Or.inl ⟨mup m1 (a + 1) i (q_shl (nI 1) (nI i)), ⟨i1.up (by omega) (by omega), fun s hs => ?_⟩, ?_⟩
    · rw [mup_if]
      by_cases es : s = i
      · rw [if_pos es, es]
      · rw [if_neg es]; exact i2 s (by omega)
    · show S_X6_findClosures_2 N (L_X6_findClosures_2 N f) m1 a a1 (nI i) = _
      unfold S_X6_findClosures_2
      simp (disch := omega) only [zi_t, zi_f, bnd_t, zg_in, zx, nI_ltI, nI_leI, nI_eq, nI_add, pk_mul, pk_sub, mup_s, mup_c, mup_j, mrw_c, if_pos, if_neg, zm_1, zm_2, zm_3, zm_4, zm_5, zm_6, zm_7, zm_8, zm_9, zf_0, zf_1, zf_2, zf_3, zf_4, zf_5, zf_6, zf_7, zf_8, zf_9, zf_10, zf_14, zf_15, zf_16, zf_18, zf_19, zf_20, zf_24, zf_30, zf_31, zf_32, zf_33, zf_99, zf_100, zf_160, zf_200, zf_287, zf_288, zf_300, zf_1000, zf_1023, zf_1024, zf_1600, zf_3840, zf_25600, zf_36000, zf_1000000, zf_1000000000, zf_2000000000, zf_11560, za_1, za_2, za_4, za_5, za_6, za_7, za_8, za_9, za_10, za_11, za_12, za_14, za_15, za_22, za_23, za_25, za_26, za_27, za_28, za_29, za_30, za_31, za_32, za_33, za_34, za_35, za_41, za_42, za_43, za_44, za_45, za_46, za_47, za_48, za_49, za_61, za_62, za_63, za_64, za_65, za_70, e1, hal]
  · rintro f m1 ⟨i1, i2⟩
    have e1 := (i1.at (k := a) (by omega) 2).trans h2
    show ∃ m', S_X6_findClosures_2 N (L_X6_findClosures_2 N f) m1 a a1 (nI n) = _ ∧ _
    unfold S_X6_findClosures_2
    simp (disch := omega) only [zi_t, zi_f, bnd_t, zg_in, zx, nI_ltI, nI_leI, nI_eq, nI_add, pk_mul, pk_sub, mup_s, mup_c, mup_j, mrw_c, if_pos, if_neg, zm_1, zm_2, zm_3, zm_4, zm_5, zm_6, zm_7, zm_8, zm_9, zf_0, zf_1, zf_2, zf_3, zf_4, zf_5, zf_6, zf_7, zf_8, zf_9, zf_10, zf_14, zf_15, zf_16, zf_18, zf_19, zf_20, zf_24, zf_30, zf_31, zf_32, zf_33, zf_99, zf_100, zf_160, zf_200, zf_287, zf_288, zf_300, zf_1000, zf_1023, zf_1024, zf_1600, zf_3840, zf_25600, zf_36000, zf_1000000, zf_1000000000, zf_2000000000, zf_11560, za_1, za_2, za_4, za_5, za_6, za_7, za_8, za_9, za_10, za_11, za_12, za_14, za_15, za_22, za_23, za_25, za_26, za_27, za_28, za_29, za_30, za_31, za_32, za_33, za_34, za_35, za_41, za_42, za_43, za_44, za_45, za_46, za_47, za_48, za_49, za_61, za_62, za_63, za_64, za_65, za_70, e1]
    have hcomp : ∀ m2 : Mem, CSnd (m2 (a + 1)) n L → (∀ s, s < n → ∀ t, t < 32 → Rc (eps L) s t → tb (m2 (a + 1) s) t = true) → ∀ s, s < n → ∀ t, t < 32 → (tb (m2 (a + 1) s) t = true ↔ Rc (eps L) s t) :=
      fun m2 h3 h4 s hs t ht => ⟨(h3 s hs).2 t ht, h4 s hs t ht⟩
    refine loopW (σ := Mem × Bool × Nat) (fun f s => L_X6_findClosures_29 N f s.1 a a1 (bI s.2.1) (nI s.2.2))
      (fun s => s.2.2 ≤ n ∧ Off (a + 1) (a + 2) m s.1 ∧ CSnd (s.1 (a + 1)) n L ∧ (∀ x, x < n → r x < s.2.2 → ∀ t, t < 32 → Rc (eps L) x t → tb (s.1 (a + 1) x) t = true) ∧ (s.2.1 = false → ∀ x, x < n → ∀ t, t < 32 → Rc (eps L) x t → tb (s.1 (a + 1) x) t = true)) (fun s => n - s.2.2)
      (fun o => ∃ m', o = some m' ∧ Off (a + 1) (a + 2) m m' ∧ ∀ s, s < n → ∀ t, t < 32 → (tb (m' (a + 1) s) t = true ↔ Rc (eps L) s t)) ?_ N (m1, true, 0) ⟨Nat.zero_le _, i1, ?_, fun x _ h => absurd h (Nat.not_lt_zero _), fun h => (by cases h)⟩ (by show n - 0 < N; omega)
    · rintro F ⟨m2, fl, k⟩ hI
      have hI : k ≤ n ∧ Off (a + 1) (a + 2) m m2 ∧ CSnd (m2 (a + 1)) n L ∧ (∀ x, x < n → r x < k → ∀ t, t < 32 → Rc (eps L) x t → tb (m2 (a + 1) x) t = true) ∧ (fl = false → ∀ x, x < n → ∀ t, t < 32 → Rc (eps L) x t → tb (m2 (a + 1) x) t = true) := hI
      obtain ⟨j1, j2, j3, j4, j5⟩ := hI
      have e1 := (j2.at (k := a) (by omega) 2).trans h2
      cases fl with
      | false =>
        refine Or.inr ⟨m2, ?_, j2, hcomp m2 j3 (j5 rfl)⟩
        show S_X6_findClosures_29 N (L_X6_findClosures_29 N F) m2 a a1 (bI false) (nI k) = _
        unfold S_X6_findClosures_29 B_X6_findClosures_144
        simp (disch := omega) only [zi_t, zi_f, bnd_t, zg_in, zx, nI_ltI, nI_leI, nI_eq, nI_add, pk_mul, pk_sub, mup_s, mup_c, mup_j, mrw_c, if_pos, if_neg, zm_1, zm_2, zm_3, zm_4, zm_5, zm_6, zm_7, zm_8, zm_9, zf_0, zf_1, zf_2, zf_3, zf_4, zf_5, zf_6, zf_7, zf_8, zf_9, zf_10, zf_14, zf_15, zf_16, zf_18, zf_19, zf_20, zf_24, zf_30, zf_31, zf_32, zf_33, zf_99, zf_100, zf_160, zf_200, zf_287, zf_288, zf_300, zf_1000, zf_1023, zf_1024, zf_1600, zf_3840, zf_25600, zf_36000, zf_1000000, zf_1000000000, zf_2000000000, zf_11560, za_1, za_2, za_4, za_5, za_6, za_7, za_8, za_9, za_10, za_11, za_12, za_14, za_15, za_22, za_23, za_25, za_26, za_27, za_28, za_29, za_30, za_31, za_32, za_33, za_34, za_35, za_41, za_42, za_43, za_44, za_45, za_46, za_47, za_48, za_49, za_61, za_62, za_63, za_64, za_65, za_70, bI_f]
      | true =>
        rcases Nat.lt_or_ge k n with hk | hk
        · have hC2 : MC m2 a1 n e L := hC.cg (j2 a1 (by omega)) (j2 (a1 + 1) (by omega)) (j2 (a1 + 1 + 1) (by omega)) (j2 (a1 + 1 + 2) (by omega))
          obtain ⟨m3, fl, p1, p2, p3, p4, p5, p6⟩ := cl_cpass (rec := L_X6_findClosures_29 N F) hN ha ha1 hal hC2 hok hn hl (by omega : k < 100) j3
          refine Or.inl ⟨(m3, fl, k + 1), ⟨by show k + 1 ≤ n; omega, j2.tr p2, p3, ?_, ?_⟩, by show n - (k + 1) < n - k; omega, ?_⟩
          · intro x hx hr t ht hrc
            have hr : r x < k + 1 := hr
            rcases hrc.case with rfl | ⟨y, ⟨q, hq, hs, q1, q2⟩, hrc2⟩
            · exact (p3 t hx).1
            · have h8 : upr q.1 = 8 := of_decide_eq_true hs
              have h3 := r3 q hq h8
              rw [q1, q2] at h3
              have hy : y < n := by rw [← q2]; exact (hok q hq).2.2.1
              have h4 := j4 y hy (by omega) t ht hrc2
              rw [← q2] at h4
              have := p5 q hq h8 t h4
              rw [q1] at this
              exact this
          · intro hfl x hx t ht hrc
            have e := p6 hfl
            have hcl : ∀ q, q ∈ L → upr q.1 = 8 → ∀ t, tb (m3 (a + 1) (too q.1)) t = true → tb (m3 (a + 1) (fr q.1)) t = true := by
              intro q hq h8 t ht
              rw [e] at ht
              exact p5 q hq h8 t ht
            have hmain : ∀ b x, x < n → r x < b → ∀ t, t < 32 → Rc (eps L) x t → tb (m3 (a + 1) x) t = true := by
              intro b
              induction b with
              | zero => intro x _ h; exact absurd h (Nat.not_lt_zero _)
              | succ b ih =>
                intro x hx hr t ht hrc
                rcases hrc.case with rfl | ⟨y, ⟨q, hq, hs, q1, q2⟩, hrc2⟩
                · exact (p3 t hx).1
                · have h8 : upr q.1 = 8 := of_decide_eq_true hs
                  have h3 := r3 q hq h8
                  rw [q1, q2] at h3
                  have hy : y < n := by rw [← q2]; exact (hok q hq).2.2.1
                  have h4 := ih y hy (by omega) t ht hrc2
                  rw [← q2] at h4
                  have := hcl q hq h8 t h4
                  rw [q1] at this
                  exact this
            exact hmain (r x + 1) x hx (by omega) t ht hrc
          · show S_X6_findClosures_29 N (L_X6_findClosures_29 N F) m2 a a1 (bI true) (nI k) = _
            unfold S_X6_findClosures_29
            simp (disch := omega) only [zi_t, zi_f, bnd_t, zg_in, zx, nI_ltI, nI_leI, nI_eq, nI_add, pk_mul, pk_sub, mup_s, mup_c, mup_j, mrw_c, if_pos, if_neg, zm_1, zm_2, zm_3, zm_4, zm_5, zm_6, zm_7, zm_8, zm_9, zf_0, zf_1, zf_2, zf_3, zf_4, zf_5, zf_6, zf_7, zf_8, zf_9, zf_10, zf_14, zf_15, zf_16, zf_18, zf_19, zf_20, zf_24, zf_30, zf_31, zf_32, zf_33, zf_99, zf_100, zf_160, zf_200, zf_287, zf_288, zf_300, zf_1000, zf_1023, zf_1024, zf_1600, zf_3840, zf_25600, zf_36000, zf_1000000, zf_1000000000, zf_2000000000, zf_11560, za_1, za_2, za_4, za_5, za_6, za_7, za_8, za_9, za_10, za_11, za_12, za_14, za_15, za_22, za_23, za_25, za_26, za_27, za_28, za_29, za_30, za_31, za_32, za_33, za_34, za_35, za_41, za_42, za_43, za_44, za_45, za_46, za_47, za_48, za_49, za_61, za_62, za_63, za_64, za_65, za_70, bI_t, e1]
            exact p1
        · refine Or.inr ⟨m2, ?_, j2, hcomp m2 j3 (fun s hs t ht => j4 s hs (by have := r2 s hs; omega) t ht)⟩
          show S_X6_findClosures_29 N (L_X6_findClosures_29 N F) m2 a a1 (bI true) (nI k) = _
          unfold S_X6_findClosures_29 B_X6_findClosures_144
          simp (disch := omega) only [zi_t, zi_f, bnd_t, zg_in, zx, nI_ltI, nI_leI, nI_eq, nI_add, pk_mul, pk_sub, mup_s, mup_c, mup_j, mrw_c, if_pos, if_neg, zm_1, zm_2, zm_3, zm_4, zm_5, zm_6, zm_7, zm_8, zm_9, zf_0, zf_1, zf_2, zf_3, zf_4, zf_5, zf_6, zf_7, zf_8, zf_9, zf_10, zf_14, zf_15, zf_16, zf_18, zf_19, zf_20, zf_24, zf_30, zf_31, zf_32, zf_33, zf_99, zf_100, zf_160, zf_200, zf_287, zf_288, zf_300, zf_1000, zf_1023, zf_1024, zf_1600, zf_3840, zf_25600, zf_36000, zf_1000000, zf_1000000000, zf_2000000000, zf_11560, za_1, za_2, za_4, za_5, za_6, za_7, za_8, za_9, za_10, za_11, za_12, za_14, za_15, za_22, za_23, za_25, za_26, za_27, za_28, za_29, za_30, za_31, za_32, za_33, za_34, za_35, za_41, za_42, za_43, za_44, za_45, za_46, za_47, za_48, za_49, za_61, za_62, za_63, za_64, za_65, za_70, bI_t, e1]
    · intro s hs
      show tb (m1 (a + 1) s) s = true ∧ ∀ t, t < 32 → tb (m1 (a + 1) s) t = true → Rc (eps L) s t
      rw [i2 s hs]
      refine ⟨by rw [tb_shl s (by omega) s (by omega), decide_eq_true rfl], fun t ht h => ?_⟩
      rw [tb_shl s (by omega) t ht, decide_eq_true_eq] at h
      rw [h]; exact Rc.rf
