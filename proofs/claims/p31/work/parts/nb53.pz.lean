theorem wi_0 {vi an : List Nat → Bool} (hv : WV vi an) (h0 : vi [] = true) : WI vi [] 0 (!an []) := by
  refine ⟨h0, by omega, (fun z hz => (by cases hz)), fun hb => ?_⟩
  rcases hv.2.1 [] h0 with h | ⟨y, hy, hvy⟩
  · rw [h] at hb; cases hb
  · exact ⟨y, Nat.zero_le _, hy, hvy⟩
theorem cl_find {N a way n S F : Nat} {f : Nat → Bool} {L : ArL} {w : List Nat} {δ : Nat → Nat} {ch : Bool} {vi an : List Nat → Bool} {m : Mem} {res : Nat × List Nat} (hN : 40000 < N) (ha : 200 ≤ a) (ha2 : a < 300) (hk : (knd a == 3) = true) (h : SL m a way n f L w δ) (hok : DOK n L) (hl : L.length ≤ 160) (h1 : 1 ≤ n) (hn : n ≤ 32) (hway : way < 3) (hwl : w.length ≤ 8) (hwx : ∀ x, x ∈ w → x < 8) (hv : WV vi an) (hvi : ∀ ρ, vi ρ = true ↔ ∃ b, SdR way L w δ ch ρ b) (han : ∀ ρ, an ρ = true ↔ AnK n f w (CpR way L w δ ch ρ)) (hS : S ≤ 20) (hS1 : 1 ≤ S) (h0 : δ 0 < 1000000000) (hw : walk vi an S F [] 0 (if an [] = true then 1 else 0) = some res) :
    ∃ m', F_X4_find N m (nI S) (bI ch) = some (nI res.1, m') ∧ Off 40 50 m m' ∧ (S ≤ res.1 → m' 40 13 = nI res.2.length ∧ PL m' res.2) := by
  obtain ⟨e0, l0⟩ := h.at0 h1
  obtain ⟨m3, hm3⟩ : ∃ m3, m3 = mup (mup m 40 4 (bI ch)) 40 13 (nI 0) := ⟨_, rfl⟩
  have hSF3 : SF m3 a way n f L w δ ch := by
    have hcg : SL m3 a way n f L w δ := ⟨h.1.cg ha (fun k hk => by rw [hm3, mup_r (by omega), mup_r (by omega)]) (by rw [hm3, mup_j (by omega), mup_j (by omega)]) (by rw [hm3, mup_j (by omega), mup_j (by omega)]) (by rw [hm3, mup_j (by omega), mup_j (by omega)]), fun p s x1 x2 x3 => by rw [hm3, mup_c (by omega), mup_c (by omega)]; exact h.2 p s x1 x2 x3⟩
    exact ⟨hcg, by rw [hm3, mup_j (by omega), mup_s]⟩
  obtain ⟨m6, c1, c2, c3⟩ := cl_clear (N := N) (lv := 0) (m := m3) hN (by omega)
  have hSF6 := hSF3.off ha c2.off
  obtain ⟨m8, hm8⟩ : ∃ m8, m8 = mup m6 47 0 (nI 1) := ⟨_, rfl⟩
  have o8 : Off 47 50 m6 m8 := by rw [hm8]; exact Off.rf.up (by omega) (by omega)
  have hSF8 := hSF6.off ha o8
  have hrow : RW' m8 w 0 (SdR way L w δ ch []) := by
    intro p s hp hs
    show tb (m8 47 (9 * 0 + p)) s = true ↔ 32 * p + s = 0
    rw [hm8]
    by_cases e : p = 0
    · subst e
      rw [show 9 * 0 + 0 = 0 by omega, mup_s, tb_1 s hs, decide_eq_true_eq]
      omega
    · rw [mup_j (by omega), c3 p (by omega), tb_0]
      constructor
      · intro h; cases h
      · intro h; omega
  obtain ⟨m10, b, e1, e2, e3, e4, e5⟩ := cl_enter (N := N) hN ha ha2 hk hSF8 hok hl hn hway hwl hwx (by omega : 0 < 288) (sdr_kn (way := way) (δ := δ) (ch := ch) (w := w) hok hn h1 []) hrow
  have hSF10 := hSF8.off ha e2.off
  have hban : b = an [] := by rw [Bool.eq_iff_iff, e4]; exact (han []).symm
  have hFI : FI way L w δ ch vi m10 [] 0 := ⟨e3, fun z hz => by
    rw [e5 z hz]
    constructor
    · intro h; exact ⟨Nat.zero_le _, (hvi [z]).mpr h⟩
    · intro h; exact (hvi [z]).mp h.2⟩
  have h13 : m10 40 13 = nI 0 := by rw [e2.off 40 (by omega), o8 40 (by omega), c2.off 40 (by omega), hm3, mup_s]
  have hv0 : vi [] = true := (hvi []).mpr ⟨0, rfl⟩
  have hwp : ∀ k, wP S k 0 (!an []) ≤ 5760 := by
    intro k
    unfold wP
    split <;> omega
  have o10 : Off 40 50 m m10 := fun c hc => by rw [e2.off c (by omega), o8 c (by omega), c2.off c (by omega), hm3, mup_r (by omega), mup_r (by omega)]
  obtain ⟨m', r1, r2, r3⟩ := cl_findLoop (N := N) hN ha ha2 hk hok hl h1 hn hway hwl hwx hv hvi han hS F F [] 0 (if an [] = true then 1 else 0) (!an []) 0 N m10 res (Nat.le_refl _) (wi_0 hv hv0) hw hFI hSF10 (by split <;> omega) (fun _ => h13) (by have := hwp (if an [] = true then 1 else 0); show 0 + 2 * wP S _ 0 _ + 0 ≤ 11550; omega) (by have := hwp (if an [] = true then 1 else 0); show 2 * wP S _ 0 _ + 0 + 3 < N; omega)
  refine ⟨m', ?_, fun c hc => by rw [r2 c hc, o10 c hc], r3⟩
  have e463 : m3 46 0 = nI (δ 0) := by rw [hm3, mup_c (by omega), mup_c (by omega)]; exact e0
  unfold F_X4_find B_X4_find_48
  rw [gd_t (bI_isb' ch)]
  simp (disch := omega) only [zi_t, zi_f, bnd_t, zg_in, zx, nI_ltI, nI_leI, nI_eq, nI_add, pk_mul, pk_sub, mup_s, mup_c, mup_j, mrw_c, if_pos, if_neg, zm_1, zm_2, zm_3, zm_4, zm_5, zm_6, zm_7, zm_8, zm_9, zf_0, zf_1, zf_2, zf_3, zf_4, zf_5, zf_6, zf_7, zf_8, zf_9, zf_10, zf_14, zf_15, zf_16, zf_18, zf_19, zf_20, zf_24, zf_30, zf_31, zf_32, zf_33, zf_99, zf_100, zf_160, zf_200, zf_287, zf_288, zf_300, zf_1000, zf_1023, zf_1024, zf_1600, zf_3840, zf_25600, zf_36000, zf_1000000, zf_1000000000, zf_2000000000, zf_11560, za_1, za_2, za_4, za_5, za_6, za_7, za_8, za_9, za_10, za_11, za_12, za_14, za_15, za_22, za_23, za_25, za_26, za_27, za_28, za_29, za_30, za_31, za_32, za_33, za_34, za_35, za_41, za_42, za_43, za_44, za_45, za_46, za_47, za_48, za_49, za_61, za_62, za_63, za_64, za_65, za_70, e0]
  rw [← hm3]
  rw [calv_t c1]
  rw [← hm8, cal_t e1, ← r1, hban]
  cases an [] with
  | true => simp (disch := omega) only [zi_t, zi_f, bnd_t, zg_in, zx, nI_ltI, nI_leI, nI_eq, nI_add, pk_mul, pk_sub, mup_s, mup_c, mup_j, mrw_c, if_pos, if_neg, zm_1, zm_2, zm_3, zm_4, zm_5, zm_6, zm_7, zm_8, zm_9, zf_0, zf_1, zf_2, zf_3, zf_4, zf_5, zf_6, zf_7, zf_8, zf_9, zf_10, zf_14, zf_15, zf_16, zf_18, zf_19, zf_20, zf_24, zf_30, zf_31, zf_32, zf_33, zf_99, zf_100, zf_160, zf_200, zf_287, zf_288, zf_300, zf_1000, zf_1023, zf_1024, zf_1600, zf_3840, zf_25600, zf_36000, zf_1000000, zf_1000000000, zf_2000000000, zf_11560, za_1, za_2, za_4, za_5, za_6, za_7, za_8, za_9, za_10, za_11, za_12, za_14, za_15, za_22, za_23, za_25, za_26, za_27, za_28, za_29, za_30, za_31, za_32, za_33, za_34, za_35, za_41, za_42, za_43, za_44, za_45, za_46, za_47, za_48, za_49, za_61, za_62, za_63, za_64, za_65, za_70, bI_t]; rfl
  | false => simp (disch := omega) only [zi_t, zi_f, bnd_t, zg_in, zx, nI_ltI, nI_leI, nI_eq, nI_add, pk_mul, pk_sub, mup_s, mup_c, mup_j, mrw_c, if_pos, if_neg, zm_1, zm_2, zm_3, zm_4, zm_5, zm_6, zm_7, zm_8, zm_9, zf_0, zf_1, zf_2, zf_3, zf_4, zf_5, zf_6, zf_7, zf_8, zf_9, zf_10, zf_14, zf_15, zf_16, zf_18, zf_19, zf_20, zf_24, zf_30, zf_31, zf_32, zf_33, zf_99, zf_100, zf_160, zf_200, zf_287, zf_288, zf_300, zf_1000, zf_1023, zf_1024, zf_1600, zf_3840, zf_25600, zf_36000, zf_1000000, zf_1000000000, zf_2000000000, zf_11560, za_1, za_2, za_4, za_5, za_6, za_7, za_8, za_9, za_10, za_11, za_12, za_14, za_15, za_22, za_23, za_25, za_26, za_27, za_28, za_29, za_30, za_31, za_32, za_33, za_34, za_35, za_41, za_42, za_43, za_44, za_45, za_46, za_47, za_48, za_49, za_61, za_62, za_63, za_64, za_65, za_70, bI_f]; rfl
