def XOK (s : XS) (J : Nat) : Prop := 1 ≤ s.1.length ∧ s.1.length ≤ 200 ∧ s.2.2.1 0 = nM ∧ (∀ j, j < J → s.2.1 j = nM ∨ ∃ i, i < s.1.length ∧ s.2.1 j = nI i) ∧ ∀ i, 1 ≤ i → i < s.1.length → ∃ k x, k < i ∧ x < 8 ∧ 8 * k + x < J ∧ s.2.2.1 i = nI k ∧ s.2.2.2 i = nI x ∧ s.2.1 (8 * k + x) = nI i
theorem fup_ne {f : Nat → Int32} {i j : Nat} {v : Int32} (h : j ≠ i) : fup f i v j = f j := if_neg h
theorem fup_eq {f : Nat → Int32} {i : Nat} {v : Int32} : fup f i v i = v := if_pos rfl
theorem exL_ok {fA fB : Int32 → Nat → Int32} {kp : Int32 → Int32 → Bool} {s s' : XS} {k x : Nat} (h : exL fA fB kp s k x = some s') (hs : XOK s (8 * k + x)) (hk : k < s.1.length) (hx : x < 8) : XOK s' (8 * k + x + 1) := by
  obtain ⟨h1, h2, h3, h4, h5⟩ := hs
  have key : ∀ v, (v = nM ∨ ∃ i, i < s.1.length ∧ v = nI i) → XOK (s.1, fup s.2.1 (8 * k + x) v, s.2.2.1, s.2.2.2) (8 * k + x + 1) := by
    intro v hv
    refine ⟨h1, h2, h3, fun j hj => ?_, fun i i1 hi => ?_⟩
    · show fup s.2.1 (8 * k + x) v j = nM ∨ ∃ i, i < s.1.length ∧ fup s.2.1 (8 * k + x) v j = nI i
      by_cases e : j = 8 * k + x
      · rw [e, fup_eq]; exact hv
      · rw [fup_ne e]; exact h4 j (by omega)
    · obtain ⟨k', x', a1, a2, a3, a4, a5, a6⟩ := h5 i i1 hi
      refine ⟨k', x', a1, a2, by omega, a4, a5, ?_⟩
      show fup s.2.1 (8 * k + x) v (8 * k' + x') = nI i
      rw [fup_ne (by omega)]; exact a6
  unfold exL at h
  split at h
  · split at h
    · rename_i hc
      rw [← Option.some.inj h]
      exact key _ (Or.inr ⟨_, hc, rfl⟩)
    · split at h
      · rename_i hc
        rw [← Option.some.inj h]
        refine ⟨?_, ?_, ?_, fun j hj => ?_, fun i i1 hi => ?_⟩
        · show 1 ≤ (s.1 ++ [_]).length
          rw [List.length_append, List.length_singleton]; omega
        · show (s.1 ++ [_]).length ≤ 200
          rw [List.length_append, List.length_singleton]; omega
        · show fup s.2.2.1 s.1.length (nI k) 0 = nM
          rw [fup_ne (by omega)]; exact h3
        · have hlen : (s.1 ++ [(fA (s.1.getD k (nI 0, nI 0)).1 x, fB (s.1.getD k (nI 0, nI 0)).2 x)]).length = s.1.length + 1 := by rw [List.length_append, List.length_singleton]
          by_cases e : j = 8 * k + x
          · refine Or.inr ⟨s.1.length, by show s.1.length < (s.1 ++ [(fA (s.1.getD k (nI 0, nI 0)).1 x, fB (s.1.getD k (nI 0, nI 0)).2 x)]).length; omega, ?_⟩
            show fup s.2.1 (8 * k + x) (nI s.1.length) j = _
            rw [e, fup_eq]
          · have e3 : fup s.2.1 (8 * k + x) (nI s.1.length) j = s.2.1 j := fup_ne e
            rcases h4 j (by omega) with e2 | ⟨i, hi, e2⟩
            · exact Or.inl (e3.trans e2)
            · exact Or.inr ⟨i, by show i < (s.1 ++ [(fA (s.1.getD k (nI 0, nI 0)).1 x, fB (s.1.getD k (nI 0, nI 0)).2 x)]).length; omega, e3.trans e2⟩
        · have hi : i < s.1.length + 1 := by
            have := hi
            simp only [List.length_append, List.length_singleton] at this
            exact this
          show ∃ k' x', k' < i ∧ x' < 8 ∧ 8 * k' + x' < 8 * k + x + 1 ∧ fup s.2.2.1 s.1.length (nI k) i = nI k' ∧ fup s.2.2.2 s.1.length (nI x) i = nI x' ∧ fup s.2.1 (8 * k + x) (nI s.1.length) (8 * k' + x') = nI i
          by_cases e : i = s.1.length
          · refine ⟨k, x, by omega, hx, by omega, ?_, ?_, ?_⟩
            · rw [e, fup_eq]
            · rw [e, fup_eq]
            · rw [fup_eq, e]
          · obtain ⟨k', x', a1, a2, a3, a4, a5, a6⟩ := h5 i i1 (by omega)
            refine ⟨k', x', a1, a2, by omega, ?_, ?_, ?_⟩
            · rw [fup_ne e]; exact a4
            · rw [fup_ne e]; exact a5
            · rw [fup_ne (by omega)]; exact a6
      · cases h
  · rw [← Option.some.inj h]
    exact key _ (Or.inl rfl)
theorem exX_ok {fA fB : Int32 → Nat → Int32} {kp : Int32 → Int32 → Bool} {s : XS} {k : Nat} (hs : XOK s (8 * k)) (hk : k < s.1.length) : ∀ (x : Nat) (s' : XS), x ≤ 8 → exX fA fB kp s k x = some s' → XOK s' (8 * k + x) ∧ s.1.length ≤ s'.1.length
  | 0, s', _, h => by
    have : s = s' := Option.some.inj h
    rw [← this]; exact ⟨hs, Nat.le_refl _⟩
  | x + 1, s', hx, h => by
    have h : (exX fA fB kp s k x).bind (fun s => exL fA fB kp s k x) = some s' := h
    cases hc : exX fA fB kp s k x with
    | none => rw [hc] at h; cases h
    | some s1 =>
      rw [hc] at h
      have h : exL fA fB kp s1 k x = some s' := h
      obtain ⟨i1, i2⟩ := exX_ok hs hk x s1 (by omega) hc
      exact ⟨exL_ok h i1 (by omega) (by omega), by have := (exL_len h i1.2.1).1; omega⟩
theorem exR_ok {fA fB : Int32 → Nat → Int32} {kp : Int32 → Int32 → Bool} {a b : Int32} : ∀ (k : Nat) (s : XS), exR fA fB kp a b k = some s → XOK s (8 * min k s.1.length)
  | 0, s, h => by
    have : exI a b = s := Option.some.inj h
    rw [← this]
    refine ⟨Nat.le_refl _, by show 1 ≤ 200; omega, rfl, fun j hj => ?_, fun i i1 hi => ?_⟩
    · rw [Nat.zero_min] at hj; omega
    · have hi : i < 1 := hi
      omega
  | k + 1, s, h => by
    have h : (exR fA fB kp a b k).bind (fun s => if k < s.1.length then exX fA fB kp s k 8 else some s) = some s := h
    cases hc : exR fA fB kp a b k with
    | none => rw [hc] at h; cases h
    | some s1 =>
      rw [hc] at h
      have ih := exR_ok k s1 hc
      have h : (if k < s1.1.length then exX fA fB kp s1 k 8 else some s1) = some s := h
      by_cases hk : k < s1.1.length
      · rw [if_pos hk] at h
        rw [Nat.min_eq_left (by omega)] at ih
        obtain ⟨i1, i2⟩ := exX_ok ih hk 8 s (by omega) h
        rw [Nat.min_eq_left (by omega)]
        exact i1
      · rw [if_neg hk] at h
        rw [← Option.some.inj h]
        rw [Nat.min_eq_right (by omega)] at ih ⊢
        exact ih
theorem exR_fin {fA fB : Int32 → Nat → Int32} {kp : Int32 → Int32 → Bool} {a b : Int32} {s : XS} (h : exR fA fB kp a b 200 = some s) : XOK s (8 * s.1.length) := by
  have := exR_ok 200 s h
  have h2 := this.2.1
  rwa [Nat.min_eq_right h2] at this
def wt (wn : Nat) (a b : Bool) : Bool := if wn = 1 then a && b else if wn = 2 then a != b else a && !b
def waf (wn : Nat) (eA eB' : Int32) (P : List PS) (k : Nat) : Bool := wt wn (decide ((P.getD k (nI 0, nI 0)).1 &&& eA ≠ nI 0)) (decide ((P.getD k (nI 0, nI 0)).2 &&& eB' ≠ nI 0))
theorem cl_isWanted {N wn k : Nat} {eA eB' : Int32} {m : Mem} {s : XS} {J : Nat} (hA : ∀ v, F_X6_hasEndIn N m 21 v = some (bI (decide (v &&& eA ≠ nI 0)), m)) (hB : ∀ v, F_X6_hasEndIn N m 24 v = some (bI (decide (v &&& eB' ≠ nI 0)), m)) (hw : m 20 2 = nI wn) (hwn : wn < 3) (h : CX m s J) (hk : k < s.1.length) (hl : s.1.length ≤ 200) : F_X5_isWanted N m (nI k) = some (bI (waf wn eA eB' s.1 k), m) := by
  obtain ⟨e1, e2⟩ := h.2.1 k _ (ps_get hk)
  unfold F_X5_isWanted
  simp (disch := omega) only [zi_t, zi_f, bnd_t, zg_in, zx, nI_ltI, nI_leI, nI_eq, nI_add, pk_mul, pk_sub, mup_s, mup_c, mup_j, mrw_c, if_pos, if_neg, zm_1, zm_2, zm_3, zm_4, zm_5, zm_6, zm_7, zm_8, zm_9, zf_0, zf_1, zf_2, zf_3, zf_4, zf_5, zf_6, zf_7, zf_8, zf_9, zf_10, zf_14, zf_15, zf_16, zf_18, zf_19, zf_20, zf_24, zf_30, zf_31, zf_32, zf_33, zf_99, zf_100, zf_160, zf_200, zf_287, zf_288, zf_300, zf_1000, zf_1023, zf_1024, zf_1600, zf_3840, zf_25600, zf_36000, zf_1000000, zf_1000000000, zf_2000000000, zf_11560, za_1, za_2, za_4, za_5, za_6, za_7, za_8, za_9, za_10, za_11, za_12, za_14, za_15, za_22, za_23, za_25, za_26, za_27, za_28, za_29, za_30, za_31, za_32, za_33, za_34, za_35, za_41, za_42, za_43, za_44, za_45, za_46, za_47, za_48, za_49, za_61, za_62, za_63, za_64, za_65, za_70, e1]
  rw [cal_t (hA _)]
  simp (disch := omega) only [zi_t, zi_f, bnd_t, zg_in, zx, nI_ltI, nI_leI, nI_eq, nI_add, pk_mul, pk_sub, mup_s, mup_c, mup_j, mrw_c, if_pos, if_neg, zm_1, zm_2, zm_3, zm_4, zm_5, zm_6, zm_7, zm_8, zm_9, zf_0, zf_1, zf_2, zf_3, zf_4, zf_5, zf_6, zf_7, zf_8, zf_9, zf_10, zf_14, zf_15, zf_16, zf_18, zf_19, zf_20, zf_24, zf_30, zf_31, zf_32, zf_33, zf_99, zf_100, zf_160, zf_200, zf_287, zf_288, zf_300, zf_1000, zf_1023, zf_1024, zf_1600, zf_3840, zf_25600, zf_36000, zf_1000000, zf_1000000000, zf_2000000000, zf_11560, za_1, za_2, za_4, za_5, za_6, za_7, za_8, za_9, za_10, za_11, za_12, za_14, za_15, za_22, za_23, za_25, za_26, za_27, za_28, za_29, za_30, za_31, za_32, za_33, za_34, za_35, za_41, za_42, za_43, za_44, za_45, za_46, za_47, za_48, za_49, za_61, za_62, za_63, za_64, za_65, za_70, e2]
  rw [cal_t (hB _)]
  unfold waf wt B_X5_isWanted_48 B_X5_isWanted_49 B_X5_isWanted_83 B_X5_isWanted_84
  have : wn = 0 ∨ wn = 1 ∨ wn = 2 := by omega
  cases decide ((s.1.getD k (nI 0, nI 0)).1 &&& eA ≠ nI 0) <;> cases decide ((s.1.getD k (nI 0, nI 0)).2 &&& eB' ≠ nI 0) <;> rcases this with rfl | rfl | rfl <;> simp (disch := omega) only [zi_t, zi_f, bnd_t, zg_in, zx, nI_ltI, nI_leI, nI_eq, nI_add, pk_mul, pk_sub, mup_s, mup_c, mup_j, mrw_c, if_pos, if_neg, zm_1, zm_2, zm_3, zm_4, zm_5, zm_6, zm_7, zm_8, zm_9, zf_0, zf_1, zf_2, zf_3, zf_4, zf_5, zf_6, zf_7, zf_8, zf_9, zf_10, zf_14, zf_15, zf_16, zf_18, zf_19, zf_20, zf_24, zf_30, zf_31, zf_32, zf_33, zf_99, zf_100, zf_160, zf_200, zf_287, zf_288, zf_300, zf_1000, zf_1023, zf_1024, zf_1600, zf_3840, zf_25600, zf_36000, zf_1000000, zf_1000000000, zf_2000000000, zf_11560, za_1, za_2, za_4, za_5, za_6, za_7, za_8, za_9, za_10, za_11, za_12, za_14, za_15, za_22, za_23, za_25, za_26, za_27, za_28, za_29, za_30, za_31, za_32, za_33, za_34, za_35, za_41, za_42, za_43, za_44, za_45, za_46, za_47, za_48, za_49, za_61, za_62, za_63, za_64, za_65, za_70, hw, bI_t, bI_f] <;> rfl
