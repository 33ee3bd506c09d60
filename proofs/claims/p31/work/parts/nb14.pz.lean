theorem cnt_full {b : Nat → Bool} : ∀ {n : Nat}, n ≤ cnt b n → ∀ i, i < n → b i = true
  | 0, _, i, hi => absurd hi (Nat.not_lt_zero _)
  | n + 1, h, i, hi => by
    rw [cnt] at h
    have := cnt_le b n
    by_cases e : i = n
    · rw [e]
      cases hb : b n with
      | true => rfl
      | false => rw [hb, if_neg (by simp)] at h; omega
    · refine cnt_full (b := b) (n := n) ?_ i (by omega)
      split at h <;> omega
theorem CX.off {m m' : Mem} {s : XS} {J : Nat} (h : CX m s J) (hf : ∀ k, k = 20 ∨ (27 ≤ k ∧ k < 32) → m' k = m k) : CX m' s J := by
  obtain ⟨t1, t2, t3, t4, t5⟩ := h
  exact ⟨by rw [hf 20 (by omega)]; exact t1, fun i p hp => by rw [hf 27 (by omega), hf 28 (by omega)]; exact t2 i p hp, fun i hi => by rw [hf 30 (by omega)]; exact t3 i hi, fun i h1 hi => by rw [hf 31 (by omega)]; exact t4 i h1 hi, fun j hj => by rw [hf 29 (by omega)]; exact t5 j hj⟩
theorem CW.off {m m' : Mem} {wn : Nat} {eA eB' : Int32} (h : CW m wn eA eB') (hf : ∀ k, k = 20 ∨ k = 21 ∨ k = 24 → m' k = m k) : CW m' wn eA eB' := ⟨by rw [hf 20 (by omega)]; exact h.1, by rw [hf 21 (by omega)]; exact h.2.1, by rw [hf 24 (by omega)]; exact h.2.2⟩
theorem cl_markUseful {N wn : Nat} {eA eB' : Int32} {m : Mem} {s : XS} {d : Nat → Nat → Option Nat} {u : Nat → Bool} (hN : 40000 < N) (h : CX m s (8 * s.1.length)) (hl : s.1.length ≤ 200) (h1 : 1 ≤ s.1.length) (hw : CW m wn eA eB') (hwn : wn < 3) (hd : DOf s d) (hu : UOf d (waf wn eA eB' s.1) s.1.length u) :
    ∃ m', F_X5_markUseful N m = some m' ∧ CRw m' 32 s.1.length u ∧ Off 32 33 m m' := by
  obtain ⟨wa, hwa⟩ : ∃ wa, wa = waf wn eA eB' s.1 := ⟨_, rfl⟩
  rw [← hwa] at hu
  unfold F_X5_markUseful
  refine loopF (fun f (m : Mem) k => L_X5_markUseful_2 N f m (nI k)) s.1.length (fun k m' => (∀ i, i < k → m' 32 i = bI (wa i)) ∧ Off 32 33 m m') (fun o => ∃ m', o = some m' ∧ CRw m' 32 s.1.length u ∧ Off 32 33 m m') ?_ ?_ N 0 m (Nat.zero_le _) ⟨fun i hi => absurd hi (Nat.not_lt_zero _), Off.rf⟩ (by omega)
  · rintro f k m1 hk ⟨i1, i2⟩
    have hX := h.off (m' := m1) (fun k hk => i2 k (by omega))
    have h20 := hX.1
    have hw1 := cl_isWanted' (N := N) (hw.off (fun k hk => i2 k (by omega))) hwn hX hk hl
    rw [← hwa] at hw1
    refine Or.inl ⟨mup m1 32 k (bI (wa k)), ⟨fun i hi => ?_, i2.up (by omega) (by omega)⟩, ?_⟩
    · rw [mup_if]
      by_cases e : i = k
      · rw [if_pos e, e]
      · rw [if_neg e]; exact i1 i (by omega)
    · show S_X5_markUseful_2 N (L_X5_markUseful_2 N f) m1 (nI k) = _
      unfold S_X5_markUseful_2
      simp (disch := omega) only [zi_t, zi_f, bnd_t, zg_in, zx, nI_ltI, nI_leI, nI_eq, nI_add, pk_mul, pk_sub, mup_s, mup_c, mup_j, mrw_c, if_pos, if_neg, zm_1, zm_2, zm_3, zm_4, zm_5, zm_6, zm_7, zm_8, zm_9, zf_0, zf_1, zf_2, zf_3, zf_4, zf_5, zf_6, zf_7, zf_8, zf_9, zf_10, zf_14, zf_15, zf_16, zf_18, zf_19, zf_20, zf_24, zf_30, zf_31, zf_32, zf_33, zf_99, zf_100, zf_160, zf_200, zf_287, zf_288, zf_300, zf_1000, zf_1023, zf_1024, zf_1600, zf_3840, zf_25600, zf_36000, zf_1000000, zf_1000000000, zf_2000000000, zf_11560, za_1, za_2, za_4, za_5, za_6, za_7, za_8, za_9, za_10, za_11, za_12, za_14, za_15, za_22, za_23, za_25, za_26, za_27, za_28, za_29, za_30, za_31, za_32, za_33, za_34, za_35, za_41, za_42, za_43, za_44, za_45, za_46, za_47, za_48, za_49, za_61, za_62, za_63, za_64, za_65, za_70, h20]
      rw [cal_t hw1]
      rw [gd_t (bI_isb' _)]
  · rintro f m1 ⟨i1, i2⟩
    have hX := h.off (m' := m1) (fun k hk => i2 k (by omega))
    have h20 := hX.1
    show ∃ m', S_X5_markUseful_2 N (L_X5_markUseful_2 N f) m1 (nI s.1.length) = _ ∧ _
    unfold S_X5_markUseful_2
    simp (disch := omega) only [zi_t, zi_f, bnd_t, zg_in, zx, nI_ltI, nI_leI, nI_eq, nI_add, pk_mul, pk_sub, mup_s, mup_c, mup_j, mrw_c, if_pos, if_neg, zm_1, zm_2, zm_3, zm_4, zm_5, zm_6, zm_7, zm_8, zm_9, zf_0, zf_1, zf_2, zf_3, zf_4, zf_5, zf_6, zf_7, zf_8, zf_9, zf_10, zf_14, zf_15, zf_16, zf_18, zf_19, zf_20, zf_24, zf_30, zf_31, zf_32, zf_33, zf_99, zf_100, zf_160, zf_200, zf_287, zf_288, zf_300, zf_1000, zf_1023, zf_1024, zf_1600, zf_3840, zf_25600, zf_36000, zf_1000000, zf_1000000000, zf_2000000000, zf_11560, za_1, za_2, za_4, za_5, za_6, za_7, za_8, za_9, za_10, za_11, za_12, za_14, za_15, za_22, za_23, za_25, za_26, za_27, za_28, za_29, za_30, za_31, za_32, za_33, za_34, za_35, za_41, za_42, za_43, za_44, za_45, za_46, za_47, za_48, za_49, za_61, za_62, za_63, za_64, za_65, za_70, h20]
    refine loopW (σ := Mem × (Nat → Bool) × Bool × Nat) (fun f x => L_X5_markUseful_31 N f x.1 (bI x.2.2.1) (nI x.2.2.2))
      (fun x => x.2.2.2 ≤ s.1.length ∧ Off 32 33 m x.1 ∧ CRw x.1 32 s.1.length x.2.1 ∧ (∀ i, i < s.1.length → x.2.1 i = true → u i = true) ∧ (∀ i, i < s.1.length → wa i = true → x.2.1 i = true) ∧ (x.2.2.1 = false → ∀ i j, dR d s.1.length i j → x.2.1 j = true → x.2.1 i = true) ∧ (x.2.2.1 = true → x.2.2.2 ≤ cnt x.2.1 s.1.length)) (fun x => s.1.length - x.2.2.2)
      (fun o => ∃ m', o = some m' ∧ CRw m' 32 s.1.length u ∧ Off 32 33 m m') ?_ N (m1, wa, true, 0) ⟨Nat.zero_le _, i2, i1, fun i hi hw => uof_wa hu hi hw, fun i _ hw => hw, fun h => (by cases h), fun _ => Nat.zero_le _⟩ (by show s.1.length - 0 < N; omega)
    rintro F ⟨m2, M, fl, r⟩ hI
    have hI : r ≤ s.1.length ∧ Off 32 33 m m2 ∧ CRw m2 32 s.1.length M ∧ (∀ i, i < s.1.length → M i = true → u i = true) ∧ (∀ i, i < s.1.length → wa i = true → M i = true) ∧ (fl = false → ∀ i j, dR d s.1.length i j → M j = true → M i = true) ∧ (fl = true → r ≤ cnt M s.1.length) := hI
    obtain ⟨j1, j2, j3, j4, j5, j6, j7⟩ := hI
    have hX2 := h.off (m' := m2) (fun k hk => j2 k (by omega))
    have h20' := hX2.1
    have hfin : (∀ i j, dR d s.1.length i j → M j = true → M i = true) → CRw m2 32 s.1.length u := by
      intro hc i hi
      rw [j3 i hi, uof_fix hu j4 j5 hc i hi]
    cases fl with
    | false =>
      right
      refine ⟨m2, ?_, hfin (j6 rfl), j2⟩
      show S_X5_markUseful_31 N (L_X5_markUseful_31 N F) m2 (bI false) (nI r) = _
      unfold S_X5_markUseful_31 B_X5_markUseful_94
      simp (disch := omega) only [zi_t, zi_f, bnd_t, zg_in, zx, nI_ltI, nI_leI, nI_eq, nI_add, pk_mul, pk_sub, mup_s, mup_c, mup_j, mrw_c, if_pos, if_neg, zm_1, zm_2, zm_3, zm_4, zm_5, zm_6, zm_7, zm_8, zm_9, zf_0, zf_1, zf_2, zf_3, zf_4, zf_5, zf_6, zf_7, zf_8, zf_9, zf_10, zf_14, zf_15, zf_16, zf_18, zf_19, zf_20, zf_24, zf_30, zf_31, zf_32, zf_33, zf_99, zf_100, zf_160, zf_200, zf_287, zf_288, zf_300, zf_1000, zf_1023, zf_1024, zf_1600, zf_3840, zf_25600, zf_36000, zf_1000000, zf_1000000000, zf_2000000000, zf_11560, za_1, za_2, za_4, za_5, za_6, za_7, za_8, za_9, za_10, za_11, za_12, za_14, za_15, za_22, za_23, za_25, za_26, za_27, za_28, za_29, za_30, za_31, za_32, za_33, za_34, za_35, za_41, za_42, za_43, za_44, za_45, za_46, za_47, za_48, za_49, za_61, za_62, za_63, za_64, za_65, za_70, bI_f]
    | true =>
      have j7 := j7 rfl
      by_cases c : r < s.1.length
      · left
        obtain ⟨m3, M', fl, p1, p2, p3, p4, p5, p6, p7⟩ := cl_mkPass (wa := wa) (rec := L_X5_markUseful_31 N F) hN hX2 hl hd hu j3 j4 (by omega : r ≤ 300) h1
        refine ⟨(m3, M', fl, r + 1), ⟨by show r + 1 ≤ _; omega, j2.tr p2, p3, p4, fun i hi hw => p5 i (j5 i hi hw), ?_, ?_⟩, by show s.1.length - (r + 1) < s.1.length - r; omega, ?_⟩
        · intro hfl
          obtain ⟨e, hc⟩ := p6 hfl
          show ∀ i j, dR d s.1.length i j → M' j = true → M' i = true
          rw [e]; exact hc
        · intro hfl
          obtain ⟨i, hi, e1, e2⟩ := p7 hfl
          have := cnt_lt p5 e2 e1 s.1.length hi
          show r + 1 ≤ cnt M' s.1.length
          omega
        · show S_X5_markUseful_31 N (L_X5_markUseful_31 N F) m2 (bI true) (nI r) = _
          unfold S_X5_markUseful_31
          simp (disch := omega) only [zi_t, zi_f, bnd_t, zg_in, zx, nI_ltI, nI_leI, nI_eq, nI_add, pk_mul, pk_sub, mup_s, mup_c, mup_j, mrw_c, if_pos, if_neg, zm_1, zm_2, zm_3, zm_4, zm_5, zm_6, zm_7, zm_8, zm_9, zf_0, zf_1, zf_2, zf_3, zf_4, zf_5, zf_6, zf_7, zf_8, zf_9, zf_10, zf_14, zf_15, zf_16, zf_18, zf_19, zf_20, zf_24, zf_30, zf_31, zf_32, zf_33, zf_99, zf_100, zf_160, zf_200, zf_287, zf_288, zf_300, zf_1000, zf_1023, zf_1024, zf_1600, zf_3840, zf_25600, zf_36000, zf_1000000, zf_1000000000, zf_2000000000, zf_11560, za_1, za_2, za_4, za_5, za_6, za_7, za_8, za_9, za_10, za_11, za_12, za_14, za_15, za_22, za_23, za_25, za_26, za_27, za_28, za_29, za_30, za_31, za_32, za_33, za_34, za_35, za_41, za_42, za_43, za_44, za_45, za_46, za_47, za_48, za_49, za_61, za_62, za_63, za_64, za_65, za_70, bI_t, h20']
          exact p1
      · right
        have hfull := cnt_full (b := M) (n := s.1.length) (by omega)
        refine ⟨m2, ?_, hfin (fun i j hr _ => hfull i hr.1), j2⟩
        show S_X5_markUseful_31 N (L_X5_markUseful_31 N F) m2 (bI true) (nI r) = _
        unfold S_X5_markUseful_31 B_X5_markUseful_94
        simp (disch := omega) only [zi_t, zi_f, bnd_t, zg_in, zx, nI_ltI, nI_leI, nI_eq, nI_add, pk_mul, pk_sub, mup_s, mup_c, mup_j, mrw_c, if_pos, if_neg, zm_1, zm_2, zm_3, zm_4, zm_5, zm_6, zm_7, zm_8, zm_9, zf_0, zf_1, zf_2, zf_3, zf_4, zf_5, zf_6, zf_7, zf_8, zf_9, zf_10, zf_14, zf_15, zf_16, zf_18, zf_19, zf_20, zf_24, zf_30, zf_31, zf_32, zf_33, zf_99, zf_100, zf_160, zf_200, zf_287, zf_288, zf_300, zf_1000, zf_1023, zf_1024, zf_1600, zf_3840, zf_25600, zf_36000, zf_1000000, zf_1000000000, zf_2000000000, zf_11560, za_1, za_2, za_4, za_5, za_6, za_7, za_8, za_9, za_10, za_11, za_12, za_14, za_15, za_22, za_23, za_25, za_26, za_27, za_28, za_29, za_30, za_31, za_32, za_33, za_34, za_35, za_41, za_42, za_43, za_44, za_45, za_46, za_47, za_48, za_49, za_61, za_62, za_63, za_64, za_65, za_70, bI_t, h20']
theorem MX.off {m m' : Mem} {s : XS} {J : Nat} (h : MX m s J) (h70 : m' 70 35 = m 70 35) (hf : ∀ k, (92 ≤ k ∧ k < 97) → m' k = m k) : MX m' s J := by
  obtain ⟨t1, t2, t3, t4, t5⟩ := h
  exact ⟨by rw [h70]; exact t1, fun i p hp => by rw [hf 92 (by omega), hf 93 (by omega)]; exact t2 i p hp, fun i hi => by rw [hf 95 (by omega)]; exact t3 i hi, fun i h1 hi => by rw [hf 96 (by omega)]; exact t4 i h1 hi, fun j hj => by rw [hf 94 (by omega)]; exact t5 j hj⟩
def dpr (d : Nat → Nat → Option Nat) (u : Nat → Bool) (k x : Nat) : Option Nat := match d k x with | none => none | some j => if u j = true then some j else none
