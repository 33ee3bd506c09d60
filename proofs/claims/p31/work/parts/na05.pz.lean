def kap (κ : Nat → Int32) : Int32 ⊕ Nat → Int32
  | .inl _ => nI 0
  | .inr x => κ x
def CR (o : Option ((Int32 ⊕ Nat) × Mem)) (m : Mem) (r : Int32 ⊕ Nat) (Ms : List Ma) (w : List Nat) (ls : Ls) : Prop :=
  ∃ m1, o = some (r, m1) ∧ InC m1 Ms w ls ∧ ∀ k, 64 ≤ k → k < 200 → m1 k = m k
def MoR (o : Option (Int32 × Mem)) (m : Mem) (t b : Int32) (Ms : List Ma) (w : List Nat) (ls : Ls) : Prop :=
  ∃ m2, o = some (b, m2) ∧ m2 70 0 = t ∧ InM m2 Ms w ls ∧ ∀ k, (k < 70 ∨ 108 ≤ k) → m2 k = m k
def Sim (κ : Nat → Int32) (c : Mem → Option ((Int32 ⊕ Nat) × Mem)) (d : Mem → Option (Int32 × Mem)) : Prop :=
  ∀ Ms w ls, InV Ms w ls → ∃ r t b Ms' w' ls', InV Ms' w' ls' ∧ (∀ m, InC m Ms w ls → CR (c m) m r Ms' w' ls') ∧ (∀ m, InM m Ms w ls → MoR (d m) m t b Ms' w' ls') ∧ t = kap κ r ∧ ∀ v, r = .inl v → b = v
def Bad (x : Int32) (n : Nat) : Prop := x.toInt < 0 ∨ (n : Int) ≤ x.toInt
theorem i32_cases (x : Int32) (n : Nat) : (∃ i, i < n ∧ x = nI i) ∨ Bad x n := by
  rcases Int.lt_or_le x.toInt 0 with h | h
  · exact Or.inr (Or.inl h)
  · rcases Int.lt_or_le x.toInt n with h2 | h2
    · have h3 := x.toInt_lt
      refine Or.inl ⟨x.toInt.toNat, by omega, ?_⟩
      apply Int32.toInt_inj.mp
      rw [nI_toInt (by omega)]
      omega
    · exact Or.inr (Or.inr h2)
theorem bad_lt {x : Int32} {n : Nat} (h : Bad x n) (hn : n < 2 ^ 31) (h0 : ¬ x < nI 0) : ¬ x < nI n := by
  intro h1
  rw [Int32.lt_iff_toInt_lt, nI_toInt (by omega)] at h0
  rw [Int32.lt_iff_toInt_lt, nI_toInt hn] at h1
  rcases h with h | h <;> omega
theorem bad_le {x : Int32} {n : Nat} (h : Bad x n) (hn : n < 2 ^ 31) (h0 : ¬ x < nI 0) : nI n ≤ x := by
  rw [Int32.lt_iff_toInt_lt, nI_toInt (by omega)] at h0
  rw [Int32.le_iff_toInt_le, nI_toInt hn]
  rcases h with h | h <;> omega
theorem bad_gt {x : Int32} {n : Nat} (h : Bad x (n + 1)) (hn : n < 2 ^ 30) (h0 : ¬ x < nI 0) : nI n < x := by
  rw [Int32.lt_iff_toInt_lt, nI_toInt (by omega)] at h0
  rw [Int32.lt_iff_toInt_lt, nI_toInt (by omega)]
  rcases h with h | h <;> omega
theorem bad_ne {x : Int32} {n a : Nat} (h : Bad x n) (ha : a < n) (hn : n < 2 ^ 31) : x ≠ nI a := by
  rintro rfl
  unfold Bad at h
  rw [nI_toInt (by omega)] at h
  omega
theorem need_ok {N i : Nat} {m : Mem} {Ms : List Ma} {w : List Nat} {ls : Ls} (h : InC m Ms w ls) (hl : Ms.length ≤ 24) (hi : i < Ms.length) : F_X7_needMachine N m (nI i) = some (.inl 0, m) := by
  have e := h.1
  unfold F_X7_needMachine
  simp (disch := omega) only [zi_t, zi_f, bnd_t, zg_in, zx, nI_ltI, nI_leI, nI_eq, nI_add, pk_mul, pk_sub, mup_s, mup_c, mup_j, mrw_c, if_pos, if_neg, zm_1, zm_2, zm_3, zm_4, zm_5, zm_6, zm_7, zm_8, zm_9, zf_0, zf_1, zf_2, zf_3, zf_4, zf_5, zf_6, zf_7, zf_8, zf_9, zf_10, zf_14, zf_15, zf_16, zf_18, zf_19, zf_20, zf_24, zf_30, zf_31, zf_32, zf_33, zf_99, zf_100, zf_160, zf_200, zf_287, zf_288, zf_300, zf_1000, zf_1023, zf_1024, zf_1600, zf_3840, zf_25600, zf_36000, zf_1000000, zf_1000000000, zf_2000000000, zf_11560, za_1, za_2, za_4, za_5, za_6, za_7, za_8, za_9, za_10, za_11, za_12, za_14, za_15, za_22, za_23, za_25, za_26, za_27, za_28, za_29, za_30, za_31, za_32, za_33, za_34, za_35, za_41, za_42, za_43, za_44, za_45, za_46, za_47, za_48, za_49, za_61, za_62, za_63, za_64, za_65, za_70, e]
theorem need_no {N : Nat} {x : Int32} {m : Mem} {Ms : List Ma} {w : List Nat} {ls : Ls} (h : InC m Ms w ls) (hl : Ms.length ≤ 24) (hx : Bad x Ms.length) : F_X7_needMachine N m x = some (.inr 2, m) := by
  have e := h.1
  unfold F_X7_needMachine B_X7_needMachine_12
  simp (disch := omega) only [zi_t, zi_f, bnd_t, zg_in, zx, nI_ltI, nI_leI, nI_eq, nI_add, pk_mul, pk_sub, mup_s, mup_c, mup_j, mrw_c, if_pos, if_neg, zm_1, zm_2, zm_3, zm_4, zm_5, zm_6, zm_7, zm_8, zm_9, zf_0, zf_1, zf_2, zf_3, zf_4, zf_5, zf_6, zf_7, zf_8, zf_9, zf_10, zf_14, zf_15, zf_16, zf_18, zf_19, zf_20, zf_24, zf_30, zf_31, zf_32, zf_33, zf_99, zf_100, zf_160, zf_200, zf_287, zf_288, zf_300, zf_1000, zf_1023, zf_1024, zf_1600, zf_3840, zf_25600, zf_36000, zf_1000000, zf_1000000000, zf_2000000000, zf_11560, za_1, za_2, za_4, za_5, za_6, za_7, za_8, za_9, za_10, za_11, za_12, za_14, za_15, za_22, za_23, za_25, za_26, za_27, za_28, za_29, za_30, za_31, za_32, za_33, za_34, za_35, za_41, za_42, za_43, za_44, za_45, za_46, za_47, za_48, za_49, za_61, za_62, za_63, za_64, za_65, za_70, e]
  by_cases h0 : x < nI 0
  · rw [if_pos h0]
  · rw [if_neg h0, if_neg (bad_lt hx (by omega) h0)]
theorem InM.up0 {m : Mem} {Ms : List Ma} {w : List Nat} {ls : Ls} (h : InM m Ms w ls) (x : Int32) : InM (mup m 70 0 x) Ms w ls := h.cg (fun k hk => mup_r (by omega)) (mup_j (by omega)) (mup_j (by omega)) (mup_j (by omega))
theorem mor_no {m m' : Mem} {o : Option (Int32 × Mem)} {b x : Int32} {Ms : List Ma} {w : List Nat} {ls : Ls} (h : InM m Ms w ls) (e : o = some (b, mup m 70 0 x)) (hf : ∀ k, (k < 70 ∨ 108 ≤ k) → m k = m' k) : MoR o m' x b Ms w ls :=
  ⟨mup m 70 0 x, e, mup_s _ _ _ _, h.up0 x, fun k hk => by rw [mup_r (by omega), hf k hk]⟩
theorem cr_no {m : Mem} {o : Option ((Int32 ⊕ Nat) × Mem)} {r : Int32 ⊕ Nat} {Ms : List Ma} {w : List Nat} {ls : Ls} (h : InC m Ms w ls) (e : o = some (r, m)) : CR o m r Ms w ls := ⟨m, e, h, fun _ _ _ => rfl⟩
theorem let_ok {a : Nat} (h : a < 8) : P_X7_isLetter (nI a) = nI 1 := by
  unfold P_X7_isLetter
  simp (disch := omega) only [zi_t, zi_f, bnd_t, zg_in, zx, nI_ltI, nI_leI, nI_eq, nI_add, pk_mul, pk_sub, mup_s, mup_c, mup_j, mrw_c, if_pos, if_neg, zm_1, zm_2, zm_3, zm_4, zm_5, zm_6, zm_7, zm_8, zm_9, zf_0, zf_1, zf_2, zf_3, zf_4, zf_5, zf_6, zf_7, zf_8, zf_9, zf_10, zf_14, zf_15, zf_16, zf_18, zf_19, zf_20, zf_24, zf_30, zf_31, zf_32, zf_33, zf_99, zf_100, zf_160, zf_200, zf_287, zf_288, zf_300, zf_1000, zf_1023, zf_1024, zf_1600, zf_3840, zf_25600, zf_36000, zf_1000000, zf_1000000000, zf_2000000000, zf_11560, za_1, za_2, za_4, za_5, za_6, za_7, za_8, za_9, za_10, za_11, za_12, za_14, za_15, za_22, za_23, za_25, za_26, za_27, za_28, za_29, za_30, za_31, za_32, za_33, za_34, za_35, za_41, za_42, za_43, za_44, za_45, za_46, za_47, za_48, za_49, za_61, za_62, za_63, za_64, za_65, za_70]
theorem let_no {x : Int32} (h : Bad x 8) : P_X7_isLetter x = nI 0 := by
  unfold P_X7_isLetter
  by_cases h0 : x < nI 0
  · simp (disch := omega) only [zi_t, zi_f, bnd_t, zg_in, zx, nI_ltI, nI_leI, nI_eq, nI_add, pk_mul, pk_sub, mup_s, mup_c, mup_j, mrw_c, if_pos, if_neg, zm_1, zm_2, zm_3, zm_4, zm_5, zm_6, zm_7, zm_8, zm_9, zf_0, zf_1, zf_2, zf_3, zf_4, zf_5, zf_6, zf_7, zf_8, zf_9, zf_10, zf_14, zf_15, zf_16, zf_18, zf_19, zf_20, zf_24, zf_30, zf_31, zf_32, zf_33, zf_99, zf_100, zf_160, zf_200, zf_287, zf_288, zf_300, zf_1000, zf_1023, zf_1024, zf_1600, zf_3840, zf_25600, zf_36000, zf_1000000, zf_1000000000, zf_2000000000, zf_11560, za_1, za_2, za_4, za_5, za_6, za_7, za_8, za_9, za_10, za_11, za_12, za_14, za_15, za_22, za_23, za_25, za_26, za_27, za_28, za_29, za_30, za_31, za_32, za_33, za_34, za_35, za_41, za_42, za_43, za_44, za_45, za_46, za_47, za_48, za_49, za_61, za_62, za_63, za_64, za_65, za_70, h0]
  · have h1 := bad_le h (by omega) h0
    simp (disch := omega) only [zi_t, zi_f, bnd_t, zg_in, zx, nI_ltI, nI_leI, nI_eq, nI_add, pk_mul, pk_sub, mup_s, mup_c, mup_j, mrw_c, if_pos, if_neg, zm_1, zm_2, zm_3, zm_4, zm_5, zm_6, zm_7, zm_8, zm_9, zf_0, zf_1, zf_2, zf_3, zf_4, zf_5, zf_6, zf_7, zf_8, zf_9, zf_10, zf_14, zf_15, zf_16, zf_18, zf_19, zf_20, zf_24, zf_30, zf_31, zf_32, zf_33, zf_99, zf_100, zf_160, zf_200, zf_287, zf_288, zf_300, zf_1000, zf_1023, zf_1024, zf_1600, zf_3840, zf_25600, zf_36000, zf_1000000, zf_1000000000, zf_2000000000, zf_11560, za_1, za_2, za_4, za_5, za_6, za_7, za_8, za_9, za_10, za_11, za_12, za_14, za_15, za_22, za_23, za_25, za_26, za_27, za_28, za_29, za_30, za_31, za_32, za_33, za_34, za_35, za_41, za_42, za_43, za_44, za_45, za_46, za_47, za_48, za_49, za_61, za_62, za_63, za_64, za_65, za_70, h0, h1]
theorem loe_ok {a : Nat} (h : a < 9) : P_X7_isLetterOrEmpty (nI a) = nI 1 := by
  unfold P_X7_isLetterOrEmpty
  by_cases h8 : a < 8
  · simp (disch := omega) only [zi_t, zi_f, bnd_t, zg_in, zx, nI_ltI, nI_leI, nI_eq, nI_add, pk_mul, pk_sub, mup_s, mup_c, mup_j, mrw_c, if_pos, if_neg, zm_1, zm_2, zm_3, zm_4, zm_5, zm_6, zm_7, zm_8, zm_9, zf_0, zf_1, zf_2, zf_3, zf_4, zf_5, zf_6, zf_7, zf_8, zf_9, zf_10, zf_14, zf_15, zf_16, zf_18, zf_19, zf_20, zf_24, zf_30, zf_31, zf_32, zf_33, zf_99, zf_100, zf_160, zf_200, zf_287, zf_288, zf_300, zf_1000, zf_1023, zf_1024, zf_1600, zf_3840, zf_25600, zf_36000, zf_1000000, zf_1000000000, zf_2000000000, zf_11560, za_1, za_2, za_4, za_5, za_6, za_7, za_8, za_9, za_10, za_11, za_12, za_14, za_15, za_22, za_23, za_25, za_26, za_27, za_28, za_29, za_30, za_31, za_32, za_33, za_34, za_35, za_41, za_42, za_43, za_44, za_45, za_46, za_47, za_48, za_49, za_61, za_62, za_63, za_64, za_65, za_70, let_ok]
  · rw [show a = 8 by omega, let_no (Or.inr (by rw [nI_toInt (by omega)]; omega))]
    simp (disch := omega) only [zi_t, zi_f, bnd_t, zg_in, zx, nI_ltI, nI_leI, nI_eq, nI_add, pk_mul, pk_sub, mup_s, mup_c, mup_j, mrw_c, if_pos, if_neg, zm_1, zm_2, zm_3, zm_4, zm_5, zm_6, zm_7, zm_8, zm_9, zf_0, zf_1, zf_2, zf_3, zf_4, zf_5, zf_6, zf_7, zf_8, zf_9, zf_10, zf_14, zf_15, zf_16, zf_18, zf_19, zf_20, zf_24, zf_30, zf_31, zf_32, zf_33, zf_99, zf_100, zf_160, zf_200, zf_287, zf_288, zf_300, zf_1000, zf_1023, zf_1024, zf_1600, zf_3840, zf_25600, zf_36000, zf_1000000, zf_1000000000, zf_2000000000, zf_11560, za_1, za_2, za_4, za_5, za_6, za_7, za_8, za_9, za_10, za_11, za_12, za_14, za_15, za_22, za_23, za_25, za_26, za_27, za_28, za_29, za_30, za_31, za_32, za_33, za_34, za_35, za_41, za_42, za_43, za_44, za_45, za_46, za_47, za_48, za_49, za_61, za_62, za_63, za_64, za_65, za_70]
theorem loe_no {x : Int32} (h : Bad x 9) : P_X7_isLetterOrEmpty x = nI 0 := by
  unfold P_X7_isLetterOrEmpty
  have h8 : Bad x 8 := by
    rcases h with h | h
    · exact Or.inl h
    · exact Or.inr (by omega)
  have hne := bad_ne h (a := 8) (by omega) (by omega)
  rw [let_no h8]
  simp (disch := omega) only [zi_t, zi_f, bnd_t, zg_in, zx, nI_ltI, nI_leI, nI_eq, nI_add, pk_mul, pk_sub, mup_s, mup_c, mup_j, mrw_c, if_pos, if_neg, zm_1, zm_2, zm_3, zm_4, zm_5, zm_6, zm_7, zm_8, zm_9, zf_0, zf_1, zf_2, zf_3, zf_4, zf_5, zf_6, zf_7, zf_8, zf_9, zf_10, zf_14, zf_15, zf_16, zf_18, zf_19, zf_20, zf_24, zf_30, zf_31, zf_32, zf_33, zf_99, zf_100, zf_160, zf_200, zf_287, zf_288, zf_300, zf_1000, zf_1023, zf_1024, zf_1600, zf_3840, zf_25600, zf_36000, zf_1000000, zf_1000000000, zf_2000000000, zf_11560, za_1, za_2, za_4, za_5, za_6, za_7, za_8, za_9, za_10, za_11, za_12, za_14, za_15, za_22, za_23, za_25, za_26, za_27, za_28, za_29, za_30, za_31, za_32, za_33, za_34, za_35, za_41, za_42, za_43, za_44, za_45, za_46, za_47, za_48, za_49, za_61, za_62, za_63, za_64, za_65, za_70, hne]
