theorem walk_ex {vi an : List Nat → Bool} {S : Nat} (hv : WV vi an) (h0 : vi [] = true) (hS : S ≤ 20) : ∃ F res, F ≤ 110000 ∧ walk vi an S F [] 0 (if an [] = true then 1 else 0) = some res := by
  obtain ⟨res, h⟩ := walk_ends (S := S) hv (wM S (if an [] = true then 1 else 0) 0 0 (!an [])) [] 0 (if an [] = true then 1 else 0) (!an []) (wi_0 hv h0) (Nat.le_refl _)
  refine ⟨_, res, ?_, h⟩
  unfold wM wP
  have : 288 * (S - (if an [] = true then 1 else 0)) ≤ 288 * 20 := Nat.mul_le_mul_left _ (by omega)
  omega
theorem cl_find0 {N a n way S : Nat} {f : Nat → Bool} {L : ArL} {w : List Nat} {δ : Nat → Nat} {ch : Bool} {m : Mem} (h : SL m a way n f L w δ) (h1 : 1 ≤ n) (h0 : ¬ δ 0 < 1000000000) : ∃ m', F_X4_find N m (nI S) (bI ch) = some (nI 0, m') ∧ Off 40 50 m m' := by
  obtain ⟨e0, l0⟩ := h.at0 h1
  refine ⟨mup (mup m 40 4 (bI ch)) 40 13 (nI 0), ?_, (Off.rf.up (by omega) (by omega)).up (by omega) (by omega)⟩
  unfold F_X4_find
  rw [gd_t (bI_isb' ch)]
  simp (disch := omega) only [zi_t, zi_f, bnd_t, zg_in, zx, nI_ltI, nI_leI, nI_eq, nI_add, pk_mul, pk_sub, mup_s, mup_c, mup_j, mrw_c, if_pos, if_neg, zm_1, zm_2, zm_3, zm_4, zm_5, zm_6, zm_7, zm_8, zm_9, zf_0, zf_1, zf_2, zf_3, zf_4, zf_5, zf_6, zf_7, zf_8, zf_9, zf_10, zf_14, zf_15, zf_16, zf_18, zf_19, zf_20, zf_24, zf_30, zf_31, zf_32, zf_33, zf_99, zf_100, zf_160, zf_200, zf_287, zf_288, zf_300, zf_1000, zf_1023, zf_1024, zf_1600, zf_3840, zf_25600, zf_36000, zf_1000000, zf_1000000000, zf_2000000000, zf_11560, za_1, za_2, za_4, za_5, za_6, za_7, za_8, za_9, za_10, za_11, za_12, za_14, za_15, za_22, za_23, za_25, za_26, za_27, za_28, za_29, za_30, za_31, za_32, za_33, za_34, za_35, za_41, za_42, za_43, za_44, za_45, za_46, za_47, za_48, za_49, za_61, za_62, za_63, za_64, za_65, za_70, e0]
theorem look_ex {n : Nat} {u : Bool} {f : Nat → Bool} {L : ArL} {w : List Nat} {δ : Nat → Nat} (hV : VM (n, f, L)) (hwl : w.length ≤ 8) (hδ : IsD (eU u L w) (En n f w) δ) (h0 : δ 0 < 1000000000) (ch : Bool) : ∃ vi an : List Nat → Bool, WV vi an ∧ (∀ ρ, vi ρ = true ↔ ∃ b, SdR (wU u) L w δ ch ρ b) ∧ (∀ ρ, an ρ = true ↔ AnK n f w (CpR (wU u) L w δ ch ρ)) := by
  obtain ⟨a1, a2, a3, a4, a5, a6, a7⟩ := hV
  obtain ⟨vi, an, hvi, han⟩ := va_ex (wU u) n f L w δ ch
  obtain ⟨φ, hs, hφ⟩ := pot_wU (u := u) (δ := δ) (ch := ch) a5 a2 hwl a6 a7
  exact ⟨vi, an, wv_of a5 hδ h0 hvi han hs hφ, hvi, han⟩
