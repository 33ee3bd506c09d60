def ltP (ρ : List Nat) (p : Nat) : Nat := if p < ρ.length then ρ.getD (ρ.length - 1 - p) 8 else 8
theorem pl_at {m : Mem} : ∀ {ρ : List Nat} {i : Nat}, PL m ρ → i < ρ.length → m 49 i = nI (ρ.getD (ρ.length - 1 - i) 8)
  | [], i, _, hi => absurd hi (Nat.not_lt_zero _)
  | y :: ρ, i, h, hi => by
    have e : (y :: ρ).length = ρ.length + 1 := rfl
    rw [e] at hi ⊢
    by_cases c : i = ρ.length
    · subst c
      rw [show ρ.length + 1 - 1 - ρ.length = 0 by omega]
      exact h.1
    · have := pl_at h.2 (by omega : i < ρ.length)
      rw [show ρ.length + 1 - 1 - i = (ρ.length - 1 - i) + 1 by omega]
      exact this
theorem cl_foundLetter {N p : Nat} {m : Mem} {ρ : List Nat} (h : PL m ρ) (h13 : m 40 13 = nI ρ.length) (hl : ρ.length ≤ 287) (hp : p < 2 ^ 31) : F_X4_foundLetter N m (nI p) = some (nI (ltP ρ p), m) := by
  unfold F_X4_foundLetter B_X4_foundLetter_21 B_X4_foundLetter_23 ltP
  by_cases c : p < ρ.length
  · have e := pl_at h c
    rw [if_pos c]
    simp (disch := omega) only [zi_t, zi_f, bnd_t, zg_in, zx, nI_ltI, nI_leI, nI_eq, nI_add, pk_mul, pk_sub, mup_s, mup_c, mup_j, mrw_c, if_pos, if_neg, zm_1, zm_2, zm_3, zm_4, zm_5, zm_6, zm_7, zm_8, zm_9, zf_0, zf_1, zf_2, zf_3, zf_4, zf_5, zf_6, zf_7, zf_8, zf_9, zf_10, zf_14, zf_15, zf_16, zf_18, zf_19, zf_20, zf_24, zf_30, zf_31, zf_32, zf_33, zf_99, zf_100, zf_160, zf_200, zf_287, zf_288, zf_300, zf_1000, zf_1023, zf_1024, zf_1600, zf_3840, zf_25600, zf_36000, zf_1000000, zf_1000000000, zf_2000000000, zf_11560, za_1, za_2, za_4, za_5, za_6, za_7, za_8, za_9, za_10, za_11, za_12, za_14, za_15, za_22, za_23, za_25, za_26, za_27, za_28, za_29, za_30, za_31, za_32, za_33, za_34, za_35, za_41, za_42, za_43, za_44, za_45, za_46, za_47, za_48, za_49, za_61, za_62, za_63, za_64, za_65, za_70, h13, e]
  · rw [if_neg c]
    simp (disch := omega) only [zi_t, zi_f, bnd_t, zg_in, zx, nI_ltI, nI_leI, nI_eq, nI_add, pk_mul, pk_sub, mup_s, mup_c, mup_j, mrw_c, if_pos, if_neg, zm_1, zm_2, zm_3, zm_4, zm_5, zm_6, zm_7, zm_8, zm_9, zf_0, zf_1, zf_2, zf_3, zf_4, zf_5, zf_6, zf_7, zf_8, zf_9, zf_10, zf_14, zf_15, zf_16, zf_18, zf_19, zf_20, zf_24, zf_30, zf_31, zf_32, zf_33, zf_99, zf_100, zf_160, zf_200, zf_287, zf_288, zf_300, zf_1000, zf_1023, zf_1024, zf_1600, zf_3840, zf_25600, zf_36000, zf_1000000, zf_1000000000, zf_2000000000, zf_11560, za_1, za_2, za_4, za_5, za_6, za_7, za_8, za_9, za_10, za_11, za_12, za_14, za_15, za_22, za_23, za_25, za_26, za_27, za_28, za_29, za_30, za_31, za_32, za_33, za_34, za_35, za_41, za_42, za_43, za_44, za_45, za_46, za_47, za_48, za_49, za_61, za_62, za_63, za_64, za_65, za_70, h13]
