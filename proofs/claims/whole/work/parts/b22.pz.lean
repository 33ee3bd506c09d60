/-! the model's least machine -/
theorem mo_sortLoop {N i j what : Nat} {m : Mem} {s : XS} {d : Nat → Nat → Option Nat} {wa : Nat → Bool} (hN : 40000 < N) (h : MP m s d) (hl : s.1.length ≤ 200) (h1 : 1 ≤ s.1.length) (hdc : ∀ k x y, k < s.1.length → x < 8 → d k x = some y → y < s.1.length) (hS : SRow m s.1.length (Ss d wa 1)) :
    ∃ t m', Mc d wa s.1.length (t + 2) = Mc d wa s.1.length (t + 1) ∧ (∀ t', t' < t → Mc d wa s.1.length (t' + 2) ≠ Mc d wa s.1.length (t' + 1)) ∧ (∀ c, c ≠ 97 → c ≠ 98 → m' c = m c) ∧ SRow m' s.1.length (Ss d wa (t + 2)) ∧ L_X8_makesLeast_67 N N m (nI i) (nI j) (nI what) (nI 0) (nI (Mc d wa s.1.length 1)) = calv (F_X8_begins N m') fun m => L_X8_makesLeast_94 N N m (nI i) (nI j) (nI what) (nI 0) := by
  have hle : ∀ t, Mc d wa s.1.length t ≤ s.1.length := by
    intro t
    cases t with
    | zero => exact Nat.zero_le _
    | succ t => exact cnt_le _ _
  refine loopF (fun f (m : Mem) t => L_X8_makesLeast_67 N f m (nI i) (nI j) (nI what) (nI (Mc d wa s.1.length t)) (nI (Mc d wa s.1.length (t + 1)))) 201 (fun t m' => (∀ c, c ≠ 97 → c ≠ 98 → m' c = m c) ∧ SRow m' s.1.length (Ss d wa (t + 1)) ∧ t ≤ Mc d wa s.1.length t ∧ ∀ t', t' + 2 ≤ t → Mc d wa s.1.length (t' + 2) ≠ Mc d wa s.1.length (t' + 1)) (fun o => ∃ t m', Mc d wa s.1.length (t + 2) = Mc d wa s.1.length (t + 1) ∧ (∀ t', t' < t → Mc d wa s.1.length (t' + 2) ≠ Mc d wa s.1.length (t' + 1)) ∧ (∀ c, c ≠ 97 → c ≠ 98 → m' c = m c) ∧ SRow m' s.1.length (Ss d wa (t + 2)) ∧ o = calv (F_X8_begins N m') fun m => L_X8_makesLeast_94 N N m (nI i) (nI j) (nI what) (nI 0)) ?_ ?_ N 0 m (by omega) ⟨fun _ _ _ => rfl, hS, Nat.le_refl _, fun t' ht => by omega⟩ (by omega)
  · rintro f t m1 ht ⟨i1, i2, i3, i4⟩
    have l1 := hle t
    have l2 := hle (t + 1)
    show (∃ s', _ ∧ S_X8_makesLeast_67 N (L_X8_makesLeast_67 N f) m1 (nI i) (nI j) (nI what) (nI (Mc d wa s.1.length t)) (nI (Mc d wa s.1.length (t + 1))) = _) ∨ ∃ t2 m', _ ∧ _ ∧ _ ∧ _ ∧ S_X8_makesLeast_67 N (L_X8_makesLeast_67 N f) m1 (nI i) (nI j) (nI what) (nI (Mc d wa s.1.length t)) (nI (Mc d wa s.1.length (t + 1))) = _
    unfold S_X8_makesLeast_67
    by_cases c : Mc d wa s.1.length (t + 1) = Mc d wa s.1.length t
    · right
      cases t with
      | zero =>
        have := nm_ltc (sig := sgM d (Ss d wa 0)) (U := fun _ => true) rfl (by omega : 0 < s.1.length)
        have c : cnt (nwF (sgM d (Ss d wa 0)) (fun _ => true)) s.1.length = 0 := c
        omega
      | succ t =>
        refine ⟨t, m1, c, fun t' ht' => i4 t' (by omega), i1, i2, ?_⟩
        rw [c, if_pos rfl]
        rfl
    · left
      have hP : MP m1 s d := ⟨by rw [i1 70 (by omega) (by omega)]; exact h.1, fun i p hp => by rw [i1 92 (by omega) (by omega), i1 93 (by omega) (by omega)]; exact h.2.1 i p hp, fun k x hk hx => by rw [i1 94 (by omega) (by omega)]; exact h.2.2 k x hk hx⟩
      obtain ⟨m2, g1, g2, g3⟩ := mo_sorts (N := N) hN hP hl hdc i2
      have hmono : Mc d wa s.1.length t ≤ Mc d wa s.1.length (t + 1) := by
        cases t with
        | zero => exact Nat.zero_le _
        | succ t => exact cnt_mono (mc_mono t) _
      refine ⟨m2, ⟨fun c c1 c2 => by rw [g2 c c1 c2, i1 c c1 c2], g3, by omega, fun t' ht' => ?_⟩, ?_⟩
      · by_cases e : t' + 2 = t + 1
        · rw [show t' + 2 = t + 1 by omega, show t' + 1 = t by omega]; exact c
        · exact i4 t' (by omega)
      · rw [if_neg (fun hc => c ((nI_eq (by omega) (by omega)).mp hc)), cal_t g1]
        rfl
  · rintro f m1 ⟨i1, i2, i3, i4⟩
    have := hle 201
    omega
theorem ss_bd {d : Nat → Nat → Option Nat} {wa : Nat → Bool} {t i c : Nat} (hi : i < c) : Ss d wa (t + 1) i < c := by
  have h1 := nm_ltc (sig := sgM d (Ss d wa t)) (U := fun _ => true) rfl hi
  have h2 := cnt_le (nwF (sgM d (Ss d wa t)) (fun _ => true)) c
  show nmF _ _ _ < c
  omega
theorem mo_makes {N i j nA nB what : Nat} {eA eB' : Int32} {m : Mem} {LA LB : ArL} (hN : 40000 < N) (hi : i < 24) (hj : j < 24) (hA : MM m i nA eA LA) (okA : DOK nA LA) (hA2 : nA ≤ 32) (lA : LA.length ≤ 160) (hB : MM m j nB eB' LB) (okB : DOK nB LB) (hB2 : nB ≤ 32) (lB : LB.length ≤ 160) (hwh : what < 4) {e2 : Int32} (he2 : e2 = if what = 0 then nI 0 else eB') :
    (exF what LA LB = none ∧ ∃ m', F_X8_makesLeast N m (nI i) (nI j) (nI what) = some (nI 0, m') ∧ Fx 80 105 [14, 35] m m') ∨ ∃ s, exF what LA LB = some s ∧ s.1.length ≤ 200 ∧ ∀ d u, DOf s d → UOf d (waf (wnW what) eA e2 s.1) s.1.length u → ∃ t mw, Mc (dpr d u) (waf (wnW what) eA e2 s.1) s.1.length (t + 2) = Mc (dpr d u) (waf (wnW what) eA e2 s.1) s.1.length (t + 1) ∧ (∀ t', t' < t → Mc (dpr d u) (waf (wnW what) eA e2 s.1) s.1.length (t' + 2) ≠ Mc (dpr d u) (waf (wnW what) eA e2 s.1) s.1.length (t' + 1)) ∧ MW mw (mnE (Ss (dpr d u) (waf (wnW what) eA e2 s.1) (t + 2)) (waf (wnW what) eA e2 s.1) s.1.length) (mnD (dpr d u) (Ss (dpr d u) (waf (wnW what) eA e2 s.1) (t + 2)) s.1.length) ∧ Fx 80 105 [14, 35] m mw ∧ F_X8_makesLeast N m (nI i) (nI j) (nI what) = tW N mw (nI (Ss (dpr d u) (waf (wnW what) eA e2 s.1) (t + 2) 0)) := by
  obtain ⟨m1, f1, hc⟩ := mo_lk (what := what) hN hi hj hA okA hA2 lA hB okB hB2 lB hwh
  unfold F_X8_makesLeast
  rcases hc with ⟨ex, h1⟩ | ⟨s, ex, h1, hX, hl⟩
  · left
    refine ⟨ex, m1, ?_, f1.wd (by omega) (by omega) (by simp)⟩
    rw [cal_t h1]
    simp (disch := omega) only [zi_t, zi_f, bnd_t, zg_in, zx, nI_ltI, nI_leI, nI_eq, nI_add, pk_mul, pk_sub, mup_s, mup_c, mup_j, mrw_c, if_pos, if_neg, zm_1, zm_2, zm_3, zm_4, zm_5, zm_6, zm_7, zm_8, zm_9, zf_0, zf_1, zf_2, zf_3, zf_4, zf_5, zf_6, zf_7, zf_8, zf_9, zf_10, zf_14, zf_15, zf_16, zf_18, zf_19, zf_20, zf_24, zf_30, zf_31, zf_32, zf_33, zf_99, zf_100, zf_160, zf_200, zf_287, zf_288, zf_300, zf_1000, zf_1023, zf_1024, zf_1600, zf_3840, zf_25600, zf_36000, zf_1000000, zf_1000000000, zf_2000000000, zf_11560, za_1, za_2, za_4, za_5, za_6, za_7, za_8, za_9, za_10, za_11, za_12, za_14, za_15, za_22, za_23, za_25, za_26, za_27, za_28, za_29, za_30, za_31, za_32, za_33, za_34, za_35, za_41, za_42, za_43, za_44, za_45, za_46, za_47, za_48, za_49, za_61, za_62, za_63, za_64, za_65, za_71, za_72, za_73, za_74, za_75, za_76, za_77, za_78, za_79, za_80, za_81, za_82, za_83, za_84, za_85, za_86, za_87, za_88, za_89, za_90, za_91, za_92, za_93, za_94, za_95, za_96, za_97, za_98, za_99, za_100, za_101, za_102, za_103, za_104, za_105, za_106, za_107, za_108]
  right
  have hok := exR_fin ex
  have hs1 := hok.1
  refine ⟨s, ex, hl, fun d u hd hu => ?_⟩
  obtain ⟨wa, hwa⟩ : ∃ wa, wa = waf (wnW what) eA e2 s.1 := ⟨_, rfl⟩
  rw [← hwa] at hu ⊢
  rw [cal_t h1]
  simp (disch := omega) only [zi_t, zi_f, bnd_t, zg_in, zx, nI_ltI, nI_leI, nI_eq, nI_add, pk_mul, pk_sub, mup_s, mup_c, mup_j, mrw_c, if_pos, if_neg, zm_1, zm_2, zm_3, zm_4, zm_5, zm_6, zm_7, zm_8, zm_9, zf_0, zf_1, zf_2, zf_3, zf_4, zf_5, zf_6, zf_7, zf_8, zf_9, zf_10, zf_14, zf_15, zf_16, zf_18, zf_19, zf_20, zf_24, zf_30, zf_31, zf_32, zf_33, zf_99, zf_100, zf_160, zf_200, zf_287, zf_288, zf_300, zf_1000, zf_1023, zf_1024, zf_1600, zf_3840, zf_25600, zf_36000, zf_1000000, zf_1000000000, zf_2000000000, zf_11560, za_1, za_2, za_4, za_5, za_6, za_7, za_8, za_9, za_10, za_11, za_12, za_14, za_15, za_22, za_23, za_25, za_26, za_27, za_28, za_29, za_30, za_31, za_32, za_33, za_34, za_35, za_41, za_42, za_43, za_44, za_45, za_46, za_47, za_48, za_49, za_61, za_62, za_63, za_64, za_65, za_71, za_72, za_73, za_74, za_75, za_76, za_77, za_78, za_79, za_80, za_81, za_82, za_83, za_84, za_85, za_86, za_87, za_88, za_89, za_90, za_91, za_92, za_93, za_94, za_95, za_96, za_97, za_98, za_99, za_100, za_101, za_102, za_103, za_104, za_105, za_106, za_107, za_108]
  have hA1 : m1 73 i = eA := by rw [f1.1 73 (by omega) (by omega)]; exact hA.2.1
  have hB1 : what ≠ 0 → m1 73 j = e2 := fun h0 => by rw [f1.1 73 (by omega) (by omega), he2, if_neg h0]; exact hB.2.1
  have hB0 : what = 0 → e2 = nI 0 := fun h0 => by rw [he2, if_pos h0]
  have hdc : ∀ k x y, k < s.1.length → x < 8 → d k x = some y → y < s.1.length := fun k x y hk hx h => (hd k x hk hx).2 y h
  have hdp : ∀ k x y, k < s.1.length → x < 8 → dpr d u k x = some y → y < s.1.length := fun k x y hk hx h => hdc k x y hk hx (dpr_some.mp h).1
  refine loopF (fun f (m : Mem) k => L_X8_makesLeast_15 N f m (nI i) (nI j) (nI what) (nI k)) s.1.length (fun k m' => (∀ c, c ≠ 97 → m' c = m1 c) ∧ ∀ i, i < k → m' 97 i = bI (wa i)) (fun o => ∃ t mw, Mc (dpr d u) wa s.1.length (t + 2) = Mc (dpr d u) wa s.1.length (t + 1) ∧ (∀ t', t' < t → Mc (dpr d u) wa s.1.length (t' + 2) ≠ Mc (dpr d u) wa s.1.length (t' + 1)) ∧ MW mw (mnE (Ss (dpr d u) wa (t + 2)) wa s.1.length) (mnD (dpr d u) (Ss (dpr d u) wa (t + 2)) s.1.length) ∧ Fx 80 105 [14, 35] m mw ∧ o = tW N mw (nI (Ss (dpr d u) wa (t + 2) 0))) ?_ ?_ N 0 m1 (Nat.zero_le _) ⟨fun _ _ => rfl, fun i hi => absurd hi (Nat.not_lt_zero _)⟩ (by omega)
  · rintro f k m2 hk ⟨i1, i2⟩
    left
    have h35 : m2 70 35 = nI s.1.length := by rw [i1 70 (by omega)]; exact hX.1
    have hX2 : MX m2 s 0 := ⟨h35, fun i p hp => by rw [i1 92 (by omega), i1 93 (by omega)]; exact hX.2.1 i p hp, fun i hi => by rw [i1 95 (by omega)]; exact hX.2.2.1 i hi, fun i h1 hi => by rw [i1 96 (by omega)]; exact hX.2.2.2.1 i h1 hi, fun j hj => absurd hj (Nat.not_lt_zero _)⟩
    have hacc := mo_isAccepted (N := N) (k := k) (eA := eA) (eB' := e2) (by rw [i1 73 (by omega)]; exact hA1) hi (fun hw => by rw [i1 73 (by omega)]; exact hB1 hw) hj hB0 hwh hX2 hk hl
    rw [← hwa] at hacc
    refine ⟨mup m2 97 k (bI (wa k)), ⟨fun c hc => by rw [mup_r hc, i1 c hc], fun i hi => ?_⟩, ?_⟩
    · rw [mup_if]
      by_cases e : i = k
      · rw [if_pos e, e]
      · rw [if_neg e]; exact i2 i (by omega)
    · show S_X8_makesLeast_15 N (L_X8_makesLeast_15 N f) m2 (nI i) (nI j) (nI what) (nI k) = _
      unfold S_X8_makesLeast_15 B_X8_makesLeast_47
      simp (disch := omega) only [zi_t, zi_f, bnd_t, zg_in, zx, nI_ltI, nI_leI, nI_eq, nI_add, pk_mul, pk_sub, mup_s, mup_c, mup_j, mrw_c, if_pos, if_neg, zm_1, zm_2, zm_3, zm_4, zm_5, zm_6, zm_7, zm_8, zm_9, zf_0, zf_1, zf_2, zf_3, zf_4, zf_5, zf_6, zf_7, zf_8, zf_9, zf_10, zf_14, zf_15, zf_16, zf_18, zf_19, zf_20, zf_24, zf_30, zf_31, zf_32, zf_33, zf_99, zf_100, zf_160, zf_200, zf_287, zf_288, zf_300, zf_1000, zf_1023, zf_1024, zf_1600, zf_3840, zf_25600, zf_36000, zf_1000000, zf_1000000000, zf_2000000000, zf_11560, za_1, za_2, za_4, za_5, za_6, za_7, za_8, za_9, za_10, za_11, za_12, za_14, za_15, za_22, za_23, za_25, za_26, za_27, za_28, za_29, za_30, za_31, za_32, za_33, za_34, za_35, za_41, za_42, za_43, za_44, za_45, za_46, za_47, za_48, za_49, za_61, za_62, za_63, za_64, za_65, za_71, za_72, za_73, za_74, za_75, za_76, za_77, za_78, za_79, za_80, za_81, za_82, za_83, za_84, za_85, za_86, za_87, za_88, za_89, za_90, za_91, za_92, za_93, za_94, za_95, za_96, za_97, za_98, za_99, za_100, za_101, za_102, za_103, za_104, za_105, za_106, za_107, za_108, h35]
      rw [cal_t hacc]
      cases wa k with
      | false => simp (disch := omega) only [zi_t, zi_f, bnd_t, zg_in, zx, nI_ltI, nI_leI, nI_eq, nI_add, pk_mul, pk_sub, mup_s, mup_c, mup_j, mrw_c, if_pos, if_neg, zm_1, zm_2, zm_3, zm_4, zm_5, zm_6, zm_7, zm_8, zm_9, zf_0, zf_1, zf_2, zf_3, zf_4, zf_5, zf_6, zf_7, zf_8, zf_9, zf_10, zf_14, zf_15, zf_16, zf_18, zf_19, zf_20, zf_24, zf_30, zf_31, zf_32, zf_33, zf_99, zf_100, zf_160, zf_200, zf_287, zf_288, zf_300, zf_1000, zf_1023, zf_1024, zf_1600, zf_3840, zf_25600, zf_36000, zf_1000000, zf_1000000000, zf_2000000000, zf_11560, za_1, za_2, za_4, za_5, za_6, za_7, za_8, za_9, za_10, za_11, za_12, za_14, za_15, za_22, za_23, za_25, za_26, za_27, za_28, za_29, za_30, za_31, za_32, za_33, za_34, za_35, za_41, za_42, za_43, za_44, za_45, za_46, za_47, za_48, za_49, za_61, za_62, za_63, za_64, za_65, za_71, za_72, za_73, za_74, za_75, za_76, za_77, za_78, za_79, za_80, za_81, za_82, za_83, za_84, za_85, za_86, za_87, za_88, za_89, za_90, za_91, za_92, za_93, za_94, za_95, za_96, za_97, za_98, za_99, za_100, za_101, za_102, za_103, za_104, za_105, za_106, za_107, za_108, bI_f]
      | true => simp (disch := omega) only [zi_t, zi_f, bnd_t, zg_in, zx, nI_ltI, nI_leI, nI_eq, nI_add, pk_mul, pk_sub, mup_s, mup_c, mup_j, mrw_c, if_pos, if_neg, zm_1, zm_2, zm_3, zm_4, zm_5, zm_6, zm_7, zm_8, zm_9, zf_0, zf_1, zf_2, zf_3, zf_4, zf_5, zf_6, zf_7, zf_8, zf_9, zf_10, zf_14, zf_15, zf_16, zf_18, zf_19, zf_20, zf_24, zf_30, zf_31, zf_32, zf_33, zf_99, zf_100, zf_160, zf_200, zf_287, zf_288, zf_300, zf_1000, zf_1023, zf_1024, zf_1600, zf_3840, zf_25600, zf_36000, zf_1000000, zf_1000000000, zf_2000000000, zf_11560, za_1, za_2, za_4, za_5, za_6, za_7, za_8, za_9, za_10, za_11, za_12, za_14, za_15, za_22, za_23, za_25, za_26, za_27, za_28, za_29, za_30, za_31, za_32, za_33, za_34, za_35, za_41, za_42, za_43, za_44, za_45, za_46, za_47, za_48, za_49, za_61, za_62, za_63, za_64, za_65, za_71, za_72, za_73, za_74, za_75, za_76, za_77, za_78, za_79, za_80, za_81, za_82, za_83, za_84, za_85, za_86, za_87, za_88, za_89, za_90, za_91, za_92, za_93, za_94, za_95, za_96, za_97, za_98, za_99, za_100, za_101, za_102, za_103, za_104, za_105, za_106, za_107, za_108, bI_t]
  · rintro f m2 ⟨i1, i2⟩
    have h35 : m2 70 35 = nI s.1.length := by rw [i1 70 (by omega)]; exact hX.1
    have hX2 : MX m2 s (8 * s.1.length) := ⟨h35, fun i p hp => by rw [i1 92 (by omega), i1 93 (by omega)]; exact hX.2.1 i p hp, fun i hi => by rw [i1 95 (by omega)]; exact hX.2.2.1 i hi, fun i h1 hi => by rw [i1 96 (by omega)]; exact hX.2.2.2.1 i h1 hi, fun j hj => by rw [i1 94 (by omega)]; exact hX.2.2.2.2 j hj⟩
    obtain ⟨m3, p1, p2, p3, p4, p5, p6⟩ := mo_prunes (N := N) hN hX2 hl hd hu i2
    have hS0 : SRow m3 s.1.length (Ss (dpr d u) wa 0) := by
      intro i hi
      rw [p4, i2 i hi]
      show bI (wa i) = nI (if wa i = true then 1 else 0) ∧ (if wa i = true then 1 else 0) < 1000
      cases wa i
      · exact ⟨rfl, by decide⟩
      · exact ⟨rfl, by decide⟩
    obtain ⟨m4, q1, q2, q3⟩ := mo_sorts (N := N) hN p2 hl hdp hS0
    have hP4 : MP m4 s (dpr d u) := ⟨by rw [q2 70 (by omega) (by omega)]; exact p2.1, fun i p hp => by rw [q2 92 (by omega) (by omega), q2 93 (by omega) (by omega)]; exact p2.2.1 i p hp, fun k x hk hx => by rw [q2 94 (by omega) (by omega)]; exact p2.2.2 k x hk hx⟩
    obtain ⟨t, m5, r1, r2, r3, r4, r5⟩ := mo_sortLoop (N := N) (i := i) (j := j) (what := what) (wa := wa) hN hP4 hl hs1 hdp q3
    have f5 : ∀ c, c < 94 ∨ 99 ≤ c ∨ c = 95 ∨ c = 96 → m5 c = if c = 70 then m5 c else m2 c := by
      intro c hc
      by_cases e : c = 70
      · rw [if_pos e]
      · rw [if_neg e, r3 c (by omega) (by omega), q2 c (by omega) (by omega)]
        by_cases e2 : c = 95
        · rw [e2, p5]
        · by_cases e3 : c = 96
          · rw [e3, p6]
          · exact p3.1 c e (by omega)
    have f70 : ∀ j, m5 70 j = m2 70 j := fun j => by rw [r3 70 (by omega) (by omega), q2 70 (by omega) (by omega), p3.2 j (by simp)]
    have hP5 : MP m5 s (dpr d u) := ⟨by rw [r3 70 (by omega) (by omega)]; exact hP4.1, fun i p hp => by rw [r3 92 (by omega) (by omega), r3 93 (by omega) (by omega)]; exact hP4.2.1 i p hp, fun k x hk hx => by rw [r3 94 (by omega) (by omega)]; exact hP4.2.2 k x hk hx⟩
    have hX5 : MX m5 s 0 := ⟨hP5.1, hP5.2.1, fun i hi => by rw [f5 95 (by omega), if_neg (by omega)]; exact hX2.2.2.1 i hi, fun i h1 hi => by rw [f5 96 (by omega), if_neg (by omega)]; exact hX2.2.2.2.1 i h1 hi, fun j hj => absurd hj (Nat.not_lt_zero _)⟩
    obtain ⟨mw, w1, w2, w3⟩ := mo_mkDraft (N := N) (i := i) (j := j) (what := what) (eA := eA) (eB' := e2) hN hP5 hX5 hl hs1 hdp r4 hwa (by rw [f5 73 (by omega), if_neg (by omega), i1 73 (by omega)]; exact hA1) hi (fun hw => by rw [f5 73 (by omega), if_neg (by omega), i1 73 (by omega)]; exact hB1 hw) hj hB0 hwh
    refine ⟨t, mw, r1, r2, w1, ⟨fun c c1 c2 => ?_, fun j hj => ?_⟩, ?_⟩
    · rw [w2.1 c c1 (by omega), f5 c (by omega), if_neg c1, i1 c (by omega), f1.1 c c1 (by omega)]
    · rw [w2.2 j (by simp at hj ⊢; omega), f70, i1 70 (by omega), f1.2 j (by simp at hj ⊢; omega)]
    · show S_X8_makesLeast_15 N (L_X8_makesLeast_15 N f) m2 (nI i) (nI j) (nI what) (nI s.1.length) = _
      unfold S_X8_makesLeast_15
      simp (disch := omega) only [zi_t, zi_f, bnd_t, zg_in, zx, nI_ltI, nI_leI, nI_eq, nI_add, pk_mul, pk_sub, mup_s, mup_c, mup_j, mrw_c, if_pos, if_neg, zm_1, zm_2, zm_3, zm_4, zm_5, zm_6, zm_7, zm_8, zm_9, zf_0, zf_1, zf_2, zf_3, zf_4, zf_5, zf_6, zf_7, zf_8, zf_9, zf_10, zf_14, zf_15, zf_16, zf_18, zf_19, zf_20, zf_24, zf_30, zf_31, zf_32, zf_33, zf_99, zf_100, zf_160, zf_200, zf_287, zf_288, zf_300, zf_1000, zf_1023, zf_1024, zf_1600, zf_3840, zf_25600, zf_36000, zf_1000000, zf_1000000000, zf_2000000000, zf_11560, za_1, za_2, za_4, za_5, za_6, za_7, za_8, za_9, za_10, za_11, za_12, za_14, za_15, za_22, za_23, za_25, za_26, za_27, za_28, za_29, za_30, za_31, za_32, za_33, za_34, za_35, za_41, za_42, za_43, za_44, za_45, za_46, za_47, za_48, za_49, za_61, za_62, za_63, za_64, za_65, za_71, za_72, za_73, za_74, za_75, za_76, za_77, za_78, za_79, za_80, za_81, za_82, za_83, za_84, za_85, za_86, za_87, za_88, za_89, za_90, za_91, za_92, za_93, za_94, za_95, za_96, za_97, za_98, za_99, za_100, za_101, za_102, za_103, za_104, za_105, za_106, za_107, za_108, h35]
      rw [calv_t p1, cal_t q1, ← w3, ← r5]
      rfl
