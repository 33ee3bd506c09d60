theorem Gs_bd {d : Nat → Nat → Option Nat} {wa u : Nat → Bool} {t c : Nat} (hc : c ≤ 200) : GB c (Gs d wa u t) := by
  intro i g hi h
  cases t with
  | zero =>
    have h : (if u i = true then some (if wa i = true then 1 else 0) else none) = some g := h
    split at h
    · have := Option.some.inj h
      split at this <;> omega
    · cases h
  | succ t =>
    have h : (if u i = true then some (nmF (sgC d (Gs d wa u t)) u i) else none) = some g := h
    split at h
    · rename_i ui
      have h2 := nm_ltc (sig := sgC d (Gs d wa u t)) ui hi
      have h3 := cnt_le (nwF (sgC d (Gs d wa u t)) u) c
      have := Option.some.inj h
      omega
    · cases h
theorem fc_pos {d : Nat → Nat → Option Nat} {wa u : Nat → Bool} {c : Nat} (h0 : u 0 = true) (hc : 1 ≤ c) (t : Nat) : 1 ≤ Fc d wa u c (t + 1) := by
  have := nm_ltc (sig := sgC d (Gs d wa u t)) h0 (by omega : 0 < c)
  show 1 ≤ cnt _ c
  omega
theorem cl_groupAlike {N wn q q' : Nat} {eA eB' : Int32} {m : Mem} {s : XS} {d : Nat → Nat → Option Nat} {u : Nat → Bool} (hN : 40000 < N) (h : CX m s (8 * s.1.length)) (hl : s.1.length ≤ 200) (h1 : 1 ≤ s.1.length) (hw : CW m wn eA eB') (hwn : wn < 3) (hd : DOf s d) (hu : CRw m 32 s.1.length u) (hu0 : u 0 = true) (hq : QQ m q q') :
    ∃ m', FrG m m' ∧ (((∃ t, 33 ≤ Fc d (waf wn eA eB' s.1) u s.1.length (t + 1) ∧ ∀ t', t' + 2 ≤ t → Fc d (waf wn eA eB' s.1) u s.1.length (t' + 2) ≠ Fc d (waf wn eA eB' s.1) u s.1.length (t' + 1)) ∧ F_X5_groupAlike N m = some (nI 33, m') ∧ ∃ q q', QQ m' q q') ∨
      ∃ t q q', Fc d (waf wn eA eB' s.1) u s.1.length (t + 2) = Fc d (waf wn eA eB' s.1) u s.1.length (t + 1) ∧ (∀ t', t' < t → Fc d (waf wn eA eB' s.1) u s.1.length (t' + 2) ≠ Fc d (waf wn eA eB' s.1) u s.1.length (t' + 1)) ∧ Fc d (waf wn eA eB' s.1) u s.1.length (t + 2) ≤ 32 ∧ F_X5_groupAlike N m = some (nI (Fc d (waf wn eA eB' s.1) u s.1.length (t + 2)), m') ∧ QQ m' q q' ∧ GRow m' q s.1.length (Gs d (waf wn eA eB' s.1) u (t + 2)) ∧ MRow m' (nwF (sgC d (Gs d (waf wn eA eB' s.1) u (t + 1))) u) s.1.length) := by
  obtain ⟨wa, hwa⟩ : ∃ wa, wa = waf wn eA eB' s.1 := ⟨_, rfl⟩
  rw [← hwa]
  have hqq : q = 33 ∨ q = 34 := by rcases hq.2.2 with ⟨h, _⟩ | ⟨h, _⟩ <;> omega
  obtain ⟨kA, lA⟩ := q_knd hqq
  unfold F_X5_groupAlike
  refine loopF (fun f (m : Mem) k => L_X5_groupAlike_2 N f m (nI k)) s.1.length (fun k m' => FrG m m' ∧ (∀ j, m' 20 j = m 20 j) ∧ ∀ i, i < k → m' q i = an (Gs d wa u 0 i)) (fun o => ∃ m', FrG m m' ∧ (((∃ t, 33 ≤ Fc d wa u s.1.length (t + 1) ∧ ∀ t', t' + 2 ≤ t → Fc d wa u s.1.length (t' + 2) ≠ Fc d wa u s.1.length (t' + 1)) ∧ o = some (nI 33, m') ∧ ∃ q q', QQ m' q q') ∨
      ∃ t q q', Fc d wa u s.1.length (t + 2) = Fc d wa u s.1.length (t + 1) ∧ (∀ t', t' < t → Fc d wa u s.1.length (t' + 2) ≠ Fc d wa u s.1.length (t' + 1)) ∧ Fc d wa u s.1.length (t + 2) ≤ 32 ∧ o = some (nI (Fc d wa u s.1.length (t + 2)), m') ∧ QQ m' q q' ∧ GRow m' q s.1.length (Gs d wa u (t + 2)) ∧ MRow m' (nwF (sgC d (Gs d wa u (t + 1))) u) s.1.length)) ?_ ?_ N 0 m (Nat.zero_le _) ⟨FrG.rf, fun _ => rfl, fun i hi => absurd hi (Nat.not_lt_zero _)⟩ (by omega)
  · rintro f k m1 hk ⟨i1, i2, i3⟩
    have hX := h.fg i1
    have h20 := hX.1
    have e10 : m1 20 10 = nI q := by rw [i2]; exact hq.1
    have e32 : m1 32 k = bI (u k) := by rw [i1.1 32 (by omega) (by omega)]; exact hu k hk
    have hw1 := cl_isWanted' (N := N) (hw.fg i1) hwn hX hk hl
    rw [← hwa] at hw1
    have hup : ∀ v, v = an (Gs d wa u 0 k) → FrG m (mup m1 q k v) ∧ (∀ j, mup m1 q k v 20 j = m 20 j) ∧ ∀ i, i < k + 1 → mup m1 q k v q i = an (Gs d wa u 0 i) := by
      intro v hv
      refine ⟨i1.up (by omega) (by omega), fun j => by rw [mup_c (by omega)]; exact i2 j, fun i hi => ?_⟩
      rw [mup_if]
      by_cases e : i = k
      · rw [if_pos e, e, hv]
      · rw [if_neg e]; exact i3 i (by omega)
    left
    show ∃ s', _ ∧ S_X5_groupAlike_2 N (L_X5_groupAlike_2 N f) m1 (nI k) = _
    have hG0 : Gs d wa u 0 k = if u k = true then some (if wa k = true then 1 else 0) else none := rfl
    unfold S_X5_groupAlike_2 B_X5_groupAlike_41
    cases uk : u k with
    | false =>
      rw [uk] at e32
      refine ⟨mup m1 q k nM, hup nM (by rw [hG0, uk]; rfl), ?_⟩
      simp (disch := omega) only [zi_t, zi_f, bnd_t, zg_in, zx, nI_ltI, nI_leI, nI_eq, nI_add, pk_mul, pk_sub, mup_s, mup_c, mup_j, mrw_c, if_pos, if_neg, zm_1, zm_2, zm_3, zm_4, zm_5, zm_6, zm_7, zm_8, zm_9, zf_0, zf_1, zf_2, zf_3, zf_4, zf_5, zf_6, zf_7, zf_8, zf_9, zf_10, zf_14, zf_15, zf_16, zf_18, zf_19, zf_20, zf_24, zf_30, zf_31, zf_32, zf_33, zf_99, zf_100, zf_160, zf_200, zf_287, zf_288, zf_300, zf_1000, zf_1023, zf_1024, zf_1600, zf_3840, zf_25600, zf_36000, zf_1000000, zf_1000000000, zf_2000000000, zf_11560, za_1, za_2, za_4, za_5, za_6, za_7, za_8, za_9, za_10, za_11, za_12, za_14, za_15, za_22, za_23, za_25, za_26, za_27, za_28, za_29, za_30, za_31, za_32, za_33, za_34, za_35, za_41, za_42, za_43, za_44, za_45, za_46, za_47, za_48, za_49, za_61, za_62, za_63, za_64, za_65, za_70, h20, e10, e32, bI_f]
      rw [gd_t kA]
    | true =>
      rw [uk] at e32
      cases wk : wa k with
      | false =>
        rw [wk] at hw1
        refine ⟨mup m1 q k (nI 0), hup (nI 0) (by rw [hG0, uk, wk]; rfl), ?_⟩
        simp (disch := omega) only [zi_t, zi_f, bnd_t, zg_in, zx, nI_ltI, nI_leI, nI_eq, nI_add, pk_mul, pk_sub, mup_s, mup_c, mup_j, mrw_c, if_pos, if_neg, zm_1, zm_2, zm_3, zm_4, zm_5, zm_6, zm_7, zm_8, zm_9, zf_0, zf_1, zf_2, zf_3, zf_4, zf_5, zf_6, zf_7, zf_8, zf_9, zf_10, zf_14, zf_15, zf_16, zf_18, zf_19, zf_20, zf_24, zf_30, zf_31, zf_32, zf_33, zf_99, zf_100, zf_160, zf_200, zf_287, zf_288, zf_300, zf_1000, zf_1023, zf_1024, zf_1600, zf_3840, zf_25600, zf_36000, zf_1000000, zf_1000000000, zf_2000000000, zf_11560, za_1, za_2, za_4, za_5, za_6, za_7, za_8, za_9, za_10, za_11, za_12, za_14, za_15, za_22, za_23, za_25, za_26, za_27, za_28, za_29, za_30, za_31, za_32, za_33, za_34, za_35, za_41, za_42, za_43, za_44, za_45, za_46, za_47, za_48, za_49, za_61, za_62, za_63, za_64, za_65, za_70, h20, e10, e32, bI_t]
        rw [gd_t kA, cal_t hw1]
        simp (disch := omega) only [zi_t, zi_f, bnd_t, zg_in, zx, nI_ltI, nI_leI, nI_eq, nI_add, pk_mul, pk_sub, mup_s, mup_c, mup_j, mrw_c, if_pos, if_neg, zm_1, zm_2, zm_3, zm_4, zm_5, zm_6, zm_7, zm_8, zm_9, zf_0, zf_1, zf_2, zf_3, zf_4, zf_5, zf_6, zf_7, zf_8, zf_9, zf_10, zf_14, zf_15, zf_16, zf_18, zf_19, zf_20, zf_24, zf_30, zf_31, zf_32, zf_33, zf_99, zf_100, zf_160, zf_200, zf_287, zf_288, zf_300, zf_1000, zf_1023, zf_1024, zf_1600, zf_3840, zf_25600, zf_36000, zf_1000000, zf_1000000000, zf_2000000000, zf_11560, za_1, za_2, za_4, za_5, za_6, za_7, za_8, za_9, za_10, za_11, za_12, za_14, za_15, za_22, za_23, za_25, za_26, za_27, za_28, za_29, za_30, za_31, za_32, za_33, za_34, za_35, za_41, za_42, za_43, za_44, za_45, za_46, za_47, za_48, za_49, za_61, za_62, za_63, za_64, za_65, za_70, bI_f]
      | true =>
        rw [wk] at hw1
        refine ⟨mup m1 q k (nI 1), hup (nI 1) (by rw [hG0, uk, wk]; rfl), ?_⟩
        simp (disch := omega) only [zi_t, zi_f, bnd_t, zg_in, zx, nI_ltI, nI_leI, nI_eq, nI_add, pk_mul, pk_sub, mup_s, mup_c, mup_j, mrw_c, if_pos, if_neg, zm_1, zm_2, zm_3, zm_4, zm_5, zm_6, zm_7, zm_8, zm_9, zf_0, zf_1, zf_2, zf_3, zf_4, zf_5, zf_6, zf_7, zf_8, zf_9, zf_10, zf_14, zf_15, zf_16, zf_18, zf_19, zf_20, zf_24, zf_30, zf_31, zf_32, zf_33, zf_99, zf_100, zf_160, zf_200, zf_287, zf_288, zf_300, zf_1000, zf_1023, zf_1024, zf_1600, zf_3840, zf_25600, zf_36000, zf_1000000, zf_1000000000, zf_2000000000, zf_11560, za_1, za_2, za_4, za_5, za_6, za_7, za_8, za_9, za_10, za_11, za_12, za_14, za_15, za_22, za_23, za_25, za_26, za_27, za_28, za_29, za_30, za_31, za_32, za_33, za_34, za_35, za_41, za_42, za_43, za_44, za_45, za_46, za_47, za_48, za_49, za_61, za_62, za_63, za_64, za_65, za_70, h20, e10, e32, bI_t]
        rw [gd_t kA, cal_t hw1]
        simp (disch := omega) only [zi_t, zi_f, bnd_t, zg_in, zx, nI_ltI, nI_leI, nI_eq, nI_add, pk_mul, pk_sub, mup_s, mup_c, mup_j, mrw_c, if_pos, if_neg, zm_1, zm_2, zm_3, zm_4, zm_5, zm_6, zm_7, zm_8, zm_9, zf_0, zf_1, zf_2, zf_3, zf_4, zf_5, zf_6, zf_7, zf_8, zf_9, zf_10, zf_14, zf_15, zf_16, zf_18, zf_19, zf_20, zf_24, zf_30, zf_31, zf_32, zf_33, zf_99, zf_100, zf_160, zf_200, zf_287, zf_288, zf_300, zf_1000, zf_1023, zf_1024, zf_1600, zf_3840, zf_25600, zf_36000, zf_1000000, zf_1000000000, zf_2000000000, zf_11560, za_1, za_2, za_4, za_5, za_6, za_7, za_8, za_9, za_10, za_11, za_12, za_14, za_15, za_22, za_23, za_25, za_26, za_27, za_28, za_29, za_30, za_31, za_32, za_33, za_34, za_35, za_41, za_42, za_43, za_44, za_45, za_46, za_47, za_48, za_49, za_61, za_62, za_63, za_64, za_65, za_70, bI_t]
  · rintro f m1 ⟨i1, i2, i3⟩
    have hX := h.fg i1
    have h20 := hX.1
    show ∃ m', FrG m m' ∧ ((_ ∧ S_X5_groupAlike_2 N (L_X5_groupAlike_2 N f) m1 (nI s.1.length) = _ ∧ _) ∨ ∃ t q q', _ ∧ _ ∧ _ ∧ S_X5_groupAlike_2 N (L_X5_groupAlike_2 N f) m1 (nI s.1.length) = _ ∧ _)
    unfold S_X5_groupAlike_2
    simp (disch := omega) only [zi_t, zi_f, bnd_t, zg_in, zx, nI_ltI, nI_leI, nI_eq, nI_add, pk_mul, pk_sub, mup_s, mup_c, mup_j, mrw_c, if_pos, if_neg, zm_1, zm_2, zm_3, zm_4, zm_5, zm_6, zm_7, zm_8, zm_9, zf_0, zf_1, zf_2, zf_3, zf_4, zf_5, zf_6, zf_7, zf_8, zf_9, zf_10, zf_14, zf_15, zf_16, zf_18, zf_19, zf_20, zf_24, zf_30, zf_31, zf_32, zf_33, zf_99, zf_100, zf_160, zf_200, zf_287, zf_288, zf_300, zf_1000, zf_1023, zf_1024, zf_1600, zf_3840, zf_25600, zf_36000, zf_1000000, zf_1000000000, zf_2000000000, zf_11560, za_1, za_2, za_4, za_5, za_6, za_7, za_8, za_9, za_10, za_11, za_12, za_14, za_15, za_22, za_23, za_25, za_26, za_27, za_28, za_29, za_30, za_31, za_32, za_33, za_34, za_35, za_41, za_42, za_43, za_44, za_45, za_46, za_47, za_48, za_49, za_61, za_62, za_63, za_64, za_65, za_70, h20]
    refine loopF (fun f (m : Mem) r => L_X5_groupAlike_52 N f m (nI (Fc d wa u s.1.length r)) (nI r)) 33 (fun r m' => FrG m m' ∧ Fc d wa u s.1.length r ≤ 32 ∧ r ≤ Fc d wa u s.1.length r ∧ (∀ t', t' + 2 ≤ r → Fc d wa u s.1.length (t' + 2) ≠ Fc d wa u s.1.length (t' + 1)) ∧ ∃ q q', QQ m' q q' ∧ GRow m' q s.1.length (Gs d wa u r)) (fun o => ∃ m', FrG m m' ∧ (((∃ t, 33 ≤ Fc d wa u s.1.length (t + 1) ∧ ∀ t', t' + 2 ≤ t → Fc d wa u s.1.length (t' + 2) ≠ Fc d wa u s.1.length (t' + 1)) ∧ o = some (nI 33, m') ∧ ∃ q q', QQ m' q q') ∨
      ∃ t q q', Fc d wa u s.1.length (t + 2) = Fc d wa u s.1.length (t + 1) ∧ (∀ t', t' < t → Fc d wa u s.1.length (t' + 2) ≠ Fc d wa u s.1.length (t' + 1)) ∧ Fc d wa u s.1.length (t + 2) ≤ 32 ∧ o = some (nI (Fc d wa u s.1.length (t + 2)), m') ∧ QQ m' q q' ∧ GRow m' q s.1.length (Gs d wa u (t + 2)) ∧ MRow m' (nwF (sgC d (Gs d wa u (t + 1))) u) s.1.length)) ?_ ?_ N 0 m1 (by omega) ⟨i1, by show 0 ≤ 32; omega, Nat.le_refl _, fun t' ht => by omega, q, q', ⟨by rw [i2]; exact hq.1, by rw [i2]; exact hq.2.1, hq.2.2⟩, i3⟩ (by omega)
    · rintro f r m2 hr ⟨j1, j2, j3, j4, q, q', j5, j6⟩
      have hX2 := h.fg j1
      have hu2 : CRw m2 32 s.1.length u := fun i hi => by rw [j1.1 32 (by omega) (by omega)]; exact hu i hi
      obtain ⟨m3, p1, p2⟩ := cl_split hN hX2 hl hd hu2 j5 j6 (Gs_bd hl)
      have hF1 : cnt (nwF (sgC d (Gs d wa u r)) u) s.1.length = Fc d wa u s.1.length (r + 1) := rfl
      rw [hF1] at p2
      show (∃ s', _ ∧ S_X5_groupAlike_52 N (L_X5_groupAlike_52 N f) m2 (nI (Fc d wa u s.1.length r)) (nI r) = L_X5_groupAlike_52 N f s' (nI (Fc d wa u s.1.length (r + 1))) (nI (r + 1))) ∨ ∃ m', FrG m m' ∧ ((_ ∧ S_X5_groupAlike_52 N (L_X5_groupAlike_52 N f) m2 (nI (Fc d wa u s.1.length r)) (nI r) = _ ∧ _) ∨ ∃ t q q', _ ∧ _ ∧ _ ∧ S_X5_groupAlike_52 N (L_X5_groupAlike_52 N f) m2 (nI (Fc d wa u s.1.length r)) (nI r) = _ ∧ _)
      unfold S_X5_groupAlike_52 B_X5_groupAlike_74
      rcases p2 with ⟨p2, p3, p4⟩ | ⟨p2, p3, p4, p5, p6⟩
      · right
        refine ⟨m3, j1.tr p1, Or.inl ⟨⟨r, p2, j4⟩, ?_, q, q', p4⟩⟩
        have hne : ¬ nI 33 = nI (Fc d wa u s.1.length r) := fun hc => by have := (nI_eq (a := 33) (by omega) (by omega)).mp hc; omega
        simp (disch := omega) only [zi_t, zi_f, bnd_t, zg_in, zx, nI_ltI, nI_leI, nI_eq, nI_add, pk_mul, pk_sub, mup_s, mup_c, mup_j, mrw_c, if_pos, if_neg, zm_1, zm_2, zm_3, zm_4, zm_5, zm_6, zm_7, zm_8, zm_9, zf_0, zf_1, zf_2, zf_3, zf_4, zf_5, zf_6, zf_7, zf_8, zf_9, zf_10, zf_14, zf_15, zf_16, zf_18, zf_19, zf_20, zf_24, zf_30, zf_31, zf_32, zf_33, zf_99, zf_100, zf_160, zf_200, zf_287, zf_288, zf_300, zf_1000, zf_1023, zf_1024, zf_1600, zf_3840, zf_25600, zf_36000, zf_1000000, zf_1000000000, zf_2000000000, zf_11560, za_1, za_2, za_4, za_5, za_6, za_7, za_8, za_9, za_10, za_11, za_12, za_14, za_15, za_22, za_23, za_25, za_26, za_27, za_28, za_29, za_30, za_31, za_32, za_33, za_34, za_35, za_41, za_42, za_43, za_44, za_45, za_46, za_47, za_48, za_49, za_61, za_62, za_63, za_64, za_65, za_70]
        rw [cal_t p3]
        simp (disch := omega) only [zi_t, zi_f, bnd_t, zg_in, zx, nI_ltI, nI_leI, nI_eq, nI_add, pk_mul, pk_sub, mup_s, mup_c, mup_j, mrw_c, if_pos, if_neg, zm_1, zm_2, zm_3, zm_4, zm_5, zm_6, zm_7, zm_8, zm_9, zf_0, zf_1, zf_2, zf_3, zf_4, zf_5, zf_6, zf_7, zf_8, zf_9, zf_10, zf_14, zf_15, zf_16, zf_18, zf_19, zf_20, zf_24, zf_30, zf_31, zf_32, zf_33, zf_99, zf_100, zf_160, zf_200, zf_287, zf_288, zf_300, zf_1000, zf_1023, zf_1024, zf_1600, zf_3840, zf_25600, zf_36000, zf_1000000, zf_1000000000, zf_2000000000, zf_11560, za_1, za_2, za_4, za_5, za_6, za_7, za_8, za_9, za_10, za_11, za_12, za_14, za_15, za_22, za_23, za_25, za_26, za_27, za_28, za_29, za_30, za_31, za_32, za_33, za_34, za_35, za_41, za_42, za_43, za_44, za_45, za_46, za_47, za_48, za_49, za_61, za_62, za_63, za_64, za_65, za_70, hne]
      · by_cases c : Fc d wa u s.1.length (r + 1) = Fc d wa u s.1.length r
        · right
          cases r with
          | zero =>
            have := fc_pos (d := d) (wa := wa) (c := s.1.length) hu0 h1 0
            have e : Fc d wa u s.1.length 0 = 0 := rfl
            omega
          | succ t =>
            refine ⟨m3, j1.tr p1, Or.inr ⟨t, q', q, c, fun t' ht' => j4 t' (by omega), p2, ?_, p4, p5, p6⟩⟩
            have heq : (nI (Fc d wa u s.1.length (t + 1 + 1)) = nI (Fc d wa u s.1.length (t + 1))) = True := by rw [c]; exact eq_self _
            simp (disch := omega) only [zi_t, zi_f, bnd_t, zg_in, zx, nI_ltI, nI_leI, nI_eq, nI_add, pk_mul, pk_sub, mup_s, mup_c, mup_j, mrw_c, if_pos, if_neg, zm_1, zm_2, zm_3, zm_4, zm_5, zm_6, zm_7, zm_8, zm_9, zf_0, zf_1, zf_2, zf_3, zf_4, zf_5, zf_6, zf_7, zf_8, zf_9, zf_10, zf_14, zf_15, zf_16, zf_18, zf_19, zf_20, zf_24, zf_30, zf_31, zf_32, zf_33, zf_99, zf_100, zf_160, zf_200, zf_287, zf_288, zf_300, zf_1000, zf_1023, zf_1024, zf_1600, zf_3840, zf_25600, zf_36000, zf_1000000, zf_1000000000, zf_2000000000, zf_11560, za_1, za_2, za_4, za_5, za_6, za_7, za_8, za_9, za_10, za_11, za_12, za_14, za_15, za_22, za_23, za_25, za_26, za_27, za_28, za_29, za_30, za_31, za_32, za_33, za_34, za_35, za_41, za_42, za_43, za_44, za_45, za_46, za_47, za_48, za_49, za_61, za_62, za_63, za_64, za_65, za_70]
            rw [cal_t p3]
            simp (disch := omega) only [zi_t, zi_f, bnd_t, zg_in, zx, nI_ltI, nI_leI, nI_eq, nI_add, pk_mul, pk_sub, mup_s, mup_c, mup_j, mrw_c, if_pos, if_neg, zm_1, zm_2, zm_3, zm_4, zm_5, zm_6, zm_7, zm_8, zm_9, zf_0, zf_1, zf_2, zf_3, zf_4, zf_5, zf_6, zf_7, zf_8, zf_9, zf_10, zf_14, zf_15, zf_16, zf_18, zf_19, zf_20, zf_24, zf_30, zf_31, zf_32, zf_33, zf_99, zf_100, zf_160, zf_200, zf_287, zf_288, zf_300, zf_1000, zf_1023, zf_1024, zf_1600, zf_3840, zf_25600, zf_36000, zf_1000000, zf_1000000000, zf_2000000000, zf_11560, za_1, za_2, za_4, za_5, za_6, za_7, za_8, za_9, za_10, za_11, za_12, za_14, za_15, za_22, za_23, za_25, za_26, za_27, za_28, za_29, za_30, za_31, za_32, za_33, za_34, za_35, za_41, za_42, za_43, za_44, za_45, za_46, za_47, za_48, za_49, za_61, za_62, za_63, za_64, za_65, za_70, heq]
        · left
          have hmono : Fc d wa u s.1.length r ≤ Fc d wa u s.1.length (r + 1) := by
            cases r with
            | zero => exact Nat.zero_le _
            | succ t => exact fc_mono t
          refine ⟨m3, ⟨j1.tr p1, p2, by omega, fun t' ht' => ?_, q', q, p4, p5⟩, ?_⟩
          · by_cases e : t' + 2 = r + 1
            · have : t' + 1 = r := by omega
              rw [show t' + 2 = r + 1 by omega, this]; exact c
            · exact j4 t' (by omega)
          · have hne : (nI (Fc d wa u s.1.length (r + 1)) = nI (Fc d wa u s.1.length r)) = False := eq_false (fun hc => c ((nI_eq (by omega) (by omega)).mp hc))
            simp (disch := omega) only [zi_t, zi_f, bnd_t, zg_in, zx, nI_ltI, nI_leI, nI_eq, nI_add, pk_mul, pk_sub, mup_s, mup_c, mup_j, mrw_c, if_pos, if_neg, zm_1, zm_2, zm_3, zm_4, zm_5, zm_6, zm_7, zm_8, zm_9, zf_0, zf_1, zf_2, zf_3, zf_4, zf_5, zf_6, zf_7, zf_8, zf_9, zf_10, zf_14, zf_15, zf_16, zf_18, zf_19, zf_20, zf_24, zf_30, zf_31, zf_32, zf_33, zf_99, zf_100, zf_160, zf_200, zf_287, zf_288, zf_300, zf_1000, zf_1023, zf_1024, zf_1600, zf_3840, zf_25600, zf_36000, zf_1000000, zf_1000000000, zf_2000000000, zf_11560, za_1, za_2, za_4, za_5, za_6, za_7, za_8, za_9, za_10, za_11, za_12, za_14, za_15, za_22, za_23, za_25, za_26, za_27, za_28, za_29, za_30, za_31, za_32, za_33, za_34, za_35, za_41, za_42, za_43, za_44, za_45, za_46, za_47, za_48, za_49, za_61, za_62, za_63, za_64, za_65, za_70]
            rw [cal_t p3]
            simp (disch := omega) only [zi_t, zi_f, bnd_t, zg_in, zx, nI_ltI, nI_leI, nI_eq, nI_add, pk_mul, pk_sub, mup_s, mup_c, mup_j, mrw_c, if_pos, if_neg, zm_1, zm_2, zm_3, zm_4, zm_5, zm_6, zm_7, zm_8, zm_9, zf_0, zf_1, zf_2, zf_3, zf_4, zf_5, zf_6, zf_7, zf_8, zf_9, zf_10, zf_14, zf_15, zf_16, zf_18, zf_19, zf_20, zf_24, zf_30, zf_31, zf_32, zf_33, zf_99, zf_100, zf_160, zf_200, zf_287, zf_288, zf_300, zf_1000, zf_1023, zf_1024, zf_1600, zf_3840, zf_25600, zf_36000, zf_1000000, zf_1000000000, zf_2000000000, zf_11560, za_1, za_2, za_4, za_5, za_6, za_7, za_8, za_9, za_10, za_11, za_12, za_14, za_15, za_22, za_23, za_25, za_26, za_27, za_28, za_29, za_30, za_31, za_32, za_33, za_34, za_35, za_41, za_42, za_43, za_44, za_45, za_46, za_47, za_48, za_49, za_61, za_62, za_63, za_64, za_65, za_70, hne]
    · rintro f m2 ⟨j1, j2, j3, j4, q, q', j5, j6⟩
      omega
