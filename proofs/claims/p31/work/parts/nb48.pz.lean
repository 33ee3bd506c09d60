def OE (lv : Nat) (m m' : Mem) : Prop := (∀ c, c ≠ 47 → c ≠ 48 → m' c = m c) ∧ (∀ j, j < 9 * lv → m' 47 j = m 47 j) ∧ ∀ j, j ≠ lv → m' 48 j = m 48 j
theorem OE.off {lv : Nat} {m m' : Mem} (h : OE lv m m') : Off 47 50 m m' := fun c hc => h.1 c (by omega) (by omega)
def AnK (n : Nat) (f : Nat → Bool) (w : List Nat) (C : Nat → Prop) : Prop := ∃ s, s < n ∧ f s = true ∧ C (32 * w.length + s)
theorem cl_enter {N a way n lv : Nat} {f : Nat → Bool} {L : ArL} {w : List Nat} {δ : Nat → Nat} {ch : Bool} {m : Mem} {K : Nat → Prop} (hN : 40000 < N) (ha : 200 ≤ a) (ha2 : a < 300) (hk : (knd a == 3) = true) (h : SF m a way n f L w δ ch) (hok : DOK n L) (hl : L.length ≤ 160) (hn : n ≤ 32) (hway : way < 3) (hwl : w.length ≤ 8) (hwx : ∀ x, x ∈ w → x < 8) (hlv : lv < 288) (hK : KN n w K) (hR : RW' m w lv K) :
    ∃ m' b, F_X4_enter N m (nI lv) = some (bI b, m') ∧ OE lv m m' ∧ RW' m' w lv (CloK (Sy way L w δ ch 8) K) ∧ (b = true ↔ AnK n f w (CloK (Sy way L w δ ch 8) K)) ∧ ∀ x, x < 8 → (tb (m' 48 lv) x = true ↔ ∃ b, NxK way L w δ ch x (CloK (Sy way L w δ ch 8) K) b) := by
  obtain ⟨m1, g1, g2, g3⟩ := cl_spread (N := N) hN ha ha2 hk h hok hl hn hway hwl hwx hlv hK hR
  have h1 := h.off ha g2.off
  have hCK := clo_kn (way := way) (δ := δ) (ch := ch) hok hn hK
  obtain ⟨r, k1, k2⟩ := cl_letters (N := N) hN ha ha2 hk h1 hok hl hn hway hwl hwx hlv hCK g3
  have e401 := h1.1.1.2.2.1
  have e402 := h1.1.1.2.1
  have ee := h1.1.1.1.2.1
  have eix : lv * 9 + w.length = 9 * lv + w.length := by omega
  have hane : (m1 47 (9 * lv + w.length) &&& eB f n = nI 0) ↔ ¬ AnK n f w (CloK (Sy way L w δ ch 8) K) := by
    rw [and_ne]
    constructor
    · rintro hall ⟨s, hs, hf, hc⟩
      exact hall s (by omega) ⟨(g3 w.length s (Nat.le_refl _) (by omega)).mpr hc, by rw [tb_eBin hn hs]; exact hf⟩
    · rintro hna s hs ⟨x1, x2⟩
      have hc := (g3 w.length s (Nat.le_refl _) hs).mp x1
      rw [tb_eB hn s hs, Bool.and_eq_true, decide_eq_true_eq] at x2
      exact hna ⟨s, x2.1, x2.2, hc⟩
  have hup : OE lv m (mup m1 48 lv r) := ⟨fun c c1 c2 => by rw [mup_r c2, g2.1 c c1], fun j hj => by rw [mup_c (by omega)]; exact g2.2 j hj, fun j hj => by rw [mup_j hj, g2.1 48 (by omega)]⟩
  have hrw : RW' (mup m1 48 lv r) w lv (CloK (Sy way L w δ ch 8) K) := fun p s hp hs => by rw [mup_c (by omega)]; exact g3 p s hp hs
  unfold F_X4_enter
  rw [show (0 : Int32) = nI 0 from rfl, g1]
  unfold S_X4_enter_2 B_X4_enter_93
  by_cases c : m1 47 (9 * lv + w.length) &&& eB f n = nI 0
  · refine ⟨mup m1 48 lv r, false, ?_, hup, hrw, ⟨fun h => (by cases h), fun h => absurd h (hane.mp c)⟩, fun x hx => by rw [mup_s]; exact k2 x hx⟩
    simp (disch := omega) only [zi_t, zi_f, bnd_t, zg_in, zx, nI_ltI, nI_leI, nI_eq, nI_add, pk_mul, pk_sub, mup_s, mup_c, mup_j, mrw_c, if_pos, if_neg, zm_1, zm_2, zm_3, zm_4, zm_5, zm_6, zm_7, zm_8, zm_9, zf_0, zf_1, zf_2, zf_3, zf_4, zf_5, zf_6, zf_7, zf_8, zf_9, zf_10, zf_14, zf_15, zf_16, zf_18, zf_19, zf_20, zf_24, zf_30, zf_31, zf_32, zf_33, zf_99, zf_100, zf_160, zf_200, zf_287, zf_288, zf_300, zf_1000, zf_1023, zf_1024, zf_1600, zf_3840, zf_25600, zf_36000, zf_1000000, zf_1000000000, zf_2000000000, zf_11560, za_1, za_2, za_4, za_5, za_6, za_7, za_8, za_9, za_10, za_11, za_12, za_14, za_15, za_22, za_23, za_25, za_26, za_27, za_28, za_29, za_30, za_31, za_32, za_33, za_34, za_35, za_41, za_42, za_43, za_44, za_45, za_46, za_47, za_48, za_49, za_61, za_62, za_63, za_64, za_65, za_70, e401]
    rw [cal_t k1]
    simp (disch := omega) only [zi_t, zi_f, bnd_t, zg_in, zx, nI_ltI, nI_leI, nI_eq, nI_add, pk_mul, pk_sub, mup_s, mup_c, mup_j, mrw_c, if_pos, if_neg, zm_1, zm_2, zm_3, zm_4, zm_5, zm_6, zm_7, zm_8, zm_9, zf_0, zf_1, zf_2, zf_3, zf_4, zf_5, zf_6, zf_7, zf_8, zf_9, zf_10, zf_14, zf_15, zf_16, zf_18, zf_19, zf_20, zf_24, zf_30, zf_31, zf_32, zf_33, zf_99, zf_100, zf_160, zf_200, zf_287, zf_288, zf_300, zf_1000, zf_1023, zf_1024, zf_1600, zf_3840, zf_25600, zf_36000, zf_1000000, zf_1000000000, zf_2000000000, zf_11560, za_1, za_2, za_4, za_5, za_6, za_7, za_8, za_9, za_10, za_11, za_12, za_14, za_15, za_22, za_23, za_25, za_26, za_27, za_28, za_29, za_30, za_31, za_32, za_33, za_34, za_35, za_41, za_42, za_43, za_44, za_45, za_46, za_47, za_48, za_49, za_61, za_62, za_63, za_64, za_65, za_70, e401, e402, gd_t hk, ee, eix, c, gd_t (show isb (nI 0) = true from rfl)]
    rfl
  · refine ⟨mup m1 48 lv r, true, ?_, hup, hrw, ⟨fun _ => Classical.byContradiction (fun hn => c (hane.mpr hn)), fun _ => rfl⟩, fun x hx => by rw [mup_s]; exact k2 x hx⟩
    simp (disch := omega) only [zi_t, zi_f, bnd_t, zg_in, zx, nI_ltI, nI_leI, nI_eq, nI_add, pk_mul, pk_sub, mup_s, mup_c, mup_j, mrw_c, if_pos, if_neg, zm_1, zm_2, zm_3, zm_4, zm_5, zm_6, zm_7, zm_8, zm_9, zf_0, zf_1, zf_2, zf_3, zf_4, zf_5, zf_6, zf_7, zf_8, zf_9, zf_10, zf_14, zf_15, zf_16, zf_18, zf_19, zf_20, zf_24, zf_30, zf_31, zf_32, zf_33, zf_99, zf_100, zf_160, zf_200, zf_287, zf_288, zf_300, zf_1000, zf_1023, zf_1024, zf_1600, zf_3840, zf_25600, zf_36000, zf_1000000, zf_1000000000, zf_2000000000, zf_11560, za_1, za_2, za_4, za_5, za_6, za_7, za_8, za_9, za_10, za_11, za_12, za_14, za_15, za_22, za_23, za_25, za_26, za_27, za_28, za_29, za_30, za_31, za_32, za_33, za_34, za_35, za_41, za_42, za_43, za_44, za_45, za_46, za_47, za_48, za_49, za_61, za_62, za_63, za_64, za_65, za_70, e401]
    rw [cal_t k1]
    simp (disch := omega) only [zi_t, zi_f, bnd_t, zg_in, zx, nI_ltI, nI_leI, nI_eq, nI_add, pk_mul, pk_sub, mup_s, mup_c, mup_j, mrw_c, if_pos, if_neg, zm_1, zm_2, zm_3, zm_4, zm_5, zm_6, zm_7, zm_8, zm_9, zf_0, zf_1, zf_2, zf_3, zf_4, zf_5, zf_6, zf_7, zf_8, zf_9, zf_10, zf_14, zf_15, zf_16, zf_18, zf_19, zf_20, zf_24, zf_30, zf_31, zf_32, zf_33, zf_99, zf_100, zf_160, zf_200, zf_287, zf_288, zf_300, zf_1000, zf_1023, zf_1024, zf_1600, zf_3840, zf_25600, zf_36000, zf_1000000, zf_1000000000, zf_2000000000, zf_11560, za_1, za_2, za_4, za_5, za_6, za_7, za_8, za_9, za_10, za_11, za_12, za_14, za_15, za_22, za_23, za_25, za_26, za_27, za_28, za_29, za_30, za_31, za_32, za_33, za_34, za_35, za_41, za_42, za_43, za_44, za_45, za_46, za_47, za_48, za_49, za_61, za_62, za_63, za_64, za_65, za_70, e401, e402, gd_t hk, ee, eix, c, gd_t (show isb (nI 1) = true from rfl)]
    rfl
theorem cl_clear {N lv : Nat} {m : Mem} (hN : 40000 < N) (hlv : lv < 288) : ∃ m', F_X4_clearSets N m (nI lv) = some m' ∧ OL lv m m' ∧ ∀ p, p < 9 → m' 47 (9 * lv + p) = nI 0 := by
  unfold F_X4_clearSets
  refine loopF (fun g (m : Mem) p => L_X4_clearSets_2 N g m (nI lv) (nI p)) 9 (fun p m' => OL lv m m' ∧ ∀ q, q < p → m' 47 (9 * lv + q) = nI 0) (fun o => ∃ m', o = some m' ∧ OL lv m m' ∧ ∀ p, p < 9 → m' 47 (9 * lv + p) = nI 0) ?_ ?_ N 0 m (Nat.zero_le _) ⟨OL.rf, fun q hq => absurd hq (Nat.not_lt_zero _)⟩ (by omega)
  · rintro g p m1 hp ⟨i1, i2⟩
    have eix : lv * 9 + p = 9 * lv + p := by omega
    refine Or.inl ⟨mup m1 47 (9 * lv + p) (nI 0), ⟨⟨fun c hc => by rw [mup_r hc, i1.1 c hc], fun j hj => by rw [mup_j (by omega), i1.2 j hj]⟩, fun q hq => ?_⟩, ?_⟩
    · rw [mup_if]
      by_cases e : q = p
      · rw [if_pos (by rw [e])]
      · rw [if_neg (by omega)]; exact i2 q (by omega)
    · show S_X4_clearSets_2 N (L_X4_clearSets_2 N g) m1 (nI lv) (nI p) = _
      unfold S_X4_clearSets_2
      simp (disch := omega) only [zi_t, zi_f, bnd_t, zg_in, zx, nI_ltI, nI_leI, nI_eq, nI_add, pk_mul, pk_sub, mup_s, mup_c, mup_j, mrw_c, if_pos, if_neg, zm_1, zm_2, zm_3, zm_4, zm_5, zm_6, zm_7, zm_8, zm_9, zf_0, zf_1, zf_2, zf_3, zf_4, zf_5, zf_6, zf_7, zf_8, zf_9, zf_10, zf_14, zf_15, zf_16, zf_18, zf_19, zf_20, zf_24, zf_30, zf_31, zf_32, zf_33, zf_99, zf_100, zf_160, zf_200, zf_287, zf_288, zf_300, zf_1000, zf_1023, zf_1024, zf_1600, zf_3840, zf_25600, zf_36000, zf_1000000, zf_1000000000, zf_2000000000, zf_11560, za_1, za_2, za_4, za_5, za_6, za_7, za_8, za_9, za_10, za_11, za_12, za_14, za_15, za_22, za_23, za_25, za_26, za_27, za_28, za_29, za_30, za_31, za_32, za_33, za_34, za_35, za_41, za_42, za_43, za_44, za_45, za_46, za_47, za_48, za_49, za_61, za_62, za_63, za_64, za_65, za_70, eix]
  · rintro g m1 ⟨i1, i2⟩
    refine ⟨m1, ?_, i1, i2⟩
    show S_X4_clearSets_2 N (L_X4_clearSets_2 N g) m1 (nI lv) (nI 9) = _
    unfold S_X4_clearSets_2
    simp (disch := omega) only [zi_t, zi_f, bnd_t, zg_in, zx, nI_ltI, nI_leI, nI_eq, nI_add, pk_mul, pk_sub, mup_s, mup_c, mup_j, mrw_c, if_pos, if_neg, zm_1, zm_2, zm_3, zm_4, zm_5, zm_6, zm_7, zm_8, zm_9, zf_0, zf_1, zf_2, zf_3, zf_4, zf_5, zf_6, zf_7, zf_8, zf_9, zf_10, zf_14, zf_15, zf_16, zf_18, zf_19, zf_20, zf_24, zf_30, zf_31, zf_32, zf_33, zf_99, zf_100, zf_160, zf_200, zf_287, zf_288, zf_300, zf_1000, zf_1023, zf_1024, zf_1600, zf_3840, zf_25600, zf_36000, zf_1000000, zf_1000000000, zf_2000000000, zf_11560, za_1, za_2, za_4, za_5, za_6, za_7, za_8, za_9, za_10, za_11, za_12, za_14, za_15, za_22, za_23, za_25, za_26, za_27, za_28, za_29, za_30, za_31, za_32, za_33, za_34, za_35, za_41, za_42, za_43, za_44, za_45, za_46, za_47, za_48, za_49, za_61, za_62, za_63, za_64, za_65, za_70]
