def cmE (fA fB : Nat → Bool) (nB k x : Nat) : Bool := decide (x < k) && (fA (x / nB) && fB (x % nB))
theorem cmE_s {fA fB : Nat → Bool} {nB k : Nat} {b : Bool} (hb : b = (fA (k / nB) && fB (k % nB))) : (fun x => if x = k then b else cmE fA fB nB k x) = cmE fA fB nB (k + 1) := by
  funext x
  unfold cmE
  by_cases h : x = k
  · rw [if_pos h, decide_eq_true (by omega : x < k + 1), hb, h]; rfl
  · rw [if_neg h]
    by_cases h2 : x < k
    · rw [decide_eq_true h2, decide_eq_true (by omega : x < k + 1)]
    · rw [decide_eq_false h2, decide_eq_false (by omega : ¬ x < k + 1)]
abbrev mtv (nB : Nat) (LB : ArL) (a : Nat × Nat) : ArL := mts nB LB a ++ mv1 nB a
theorem mtv_160 {nB : Nat} {LB : ArL} (h : LB.length ≤ 160) (hn : nB ≤ 32) (a : Nat × Nat) : (mtv nB LB a).length ≤ 160 := by
  have h1 := mts_len (nB := nB) (LB := LB) a
  have h2 := mts_160 (nB := nB) h a
  rw [List.length_append]
  unfold mv1
  by_cases c : lwr a.1 = 8
  · rw [if_pos c] at h1 ⊢
    rw [bA_len]; omega
  · rw [if_neg c]
    show _ + 0 ≤ 160
    omega
theorem mv2_32 {nA nB : Nat} (hn : nA ≤ 32) (b : Nat × Nat) : (mv2 nA nB b).length ≤ 32 := by
  unfold mv2
  split
  · rw [bA_len]; exact hn
  · exact Nat.zero_le _
theorem mw_cpEnds {N i j nA nB : Nat} {fA fB : Nat → Bool} {LA LB D : ArL} {m0 m : Mem} (hN : 40000 < N) (hi : i < 24) (hj : j < 24) (h : MW m (fun _ => false) D) (hF : Fx 80 83 [14] m0 m) (hA2 : nA ≤ 32) (hB1 : 1 ≤ nB) (hB2 : nB ≤ 32) (mA : MM m0 i nA (eB fA nA) LA) (mB : MM m0 j nB (eB fB nB) LB) :
    ∃ m', Fx 80 83 [14] m0 m' ∧ MW m' (cmE fA fB nB (nB * nA)) D ∧ L_X8_composes_369 N N m (nI i) (nI j) (nI nB) (nI 0) = tW N m' (nI 0) := by
  have hn2 : nB * nA ≤ 1024 := Nat.mul_le_mul hB2 hA2
  have e0 : cmE fA fB nB 0 = fun _ => false := by
    funext x
    unfold cmE
    rw [decide_eq_false (Nat.not_lt_zero _)]; rfl
  refine loopF (fun F (m : Mem) k => L_X8_composes_369 N F m (nI i) (nI j) (nI nB) (nI k)) (nB * nA) (fun k m' => Fx 80 83 [14] m0 m' ∧ MW m' (cmE fA fB nB k) D) (fun o => ∃ m', Fx 80 83 [14] m0 m' ∧ MW m' (cmE fA fB nB (nB * nA)) D ∧ o = tW N m' (nI 0)) ?_ ?_ N 0 m (Nat.zero_le _) ⟨hF, by rw [e0]; exact h⟩ (by omega)
  · rintro F k m1 hk ⟨h1, h2⟩
    have mA1 := mA.fx h1 (by omega)
    have mB1 := mB.fx h1 (by omega)
    have e1 := mA1.1
    have hq : k / nB < nA := Nat.div_lt_of_lt_mul hk
    have hr : k % nB < nB := Nat.mod_lt _ (by omega)
    have x1 := mw_isEndOf (N := N) mA1.2.1 hi hA2 hq
    have x2 := mw_isEndOf (N := N) mB1.2.1 hj hB2 hr
    have d1 : nI k / nI nB = nI (k / nB) := pk_div (by omega) (by omega) (by omega)
    have d2 : q_rem (nI k) (nI nB) = nI (k % nB) := pk_rem (by omega) (by omega) (by omega)
    have hne : (nI nB != 0) = true := by
      rw [bne_iff_ne]
      intro h
      have h2 : nI nB = nI 0 := h
      have h3 := (nI_eq (a := nB) (b := 0) (by omega) (by omega)).mp h2
      omega
    refine Or.inl ⟨mup m1 82 k (bI (fA (k / nB) && fB (k % nB))), ⟨h1.up (by omega) (by omega) (by omega), by rw [← cmE_s (b := fA (k / nB) && fB (k % nB)) rfl]; exact mw_end h2 k _⟩, ?_⟩
    show S_X8_composes_369 N (L_X8_composes_369 N F) m1 (nI i) (nI j) (nI nB) (nI k) = _
    unfold S_X8_composes_369
    rw [hne, d1, d2]
    simp (disch := omega) only [zi_t, zi_f, bnd_t, zg_in, zx, nI_ltI, nI_leI, nI_eq, nI_add, pk_mul, pk_sub, mup_s, mup_c, mup_j, mrw_c, if_pos, if_neg, zm_1, zm_2, zm_3, zm_4, zm_5, zm_6, zm_7, zm_8, zm_9, zf_0, zf_1, zf_2, zf_3, zf_4, zf_5, zf_6, zf_7, zf_8, zf_9, zf_10, zf_14, zf_15, zf_16, zf_18, zf_19, zf_20, zf_24, zf_30, zf_31, zf_32, zf_33, zf_99, zf_100, zf_160, zf_200, zf_287, zf_288, zf_300, zf_1000, zf_1023, zf_1024, zf_1600, zf_3840, zf_25600, zf_36000, zf_1000000, zf_1000000000, zf_2000000000, zf_11560, za_1, za_2, za_4, za_5, za_6, za_7, za_8, za_9, za_10, za_11, za_12, za_14, za_15, za_22, za_23, za_25, za_26, za_27, za_28, za_29, za_30, za_31, za_32, za_33, za_34, za_35, za_41, za_42, za_43, za_44, za_45, za_46, za_47, za_48, za_49, za_61, za_62, za_63, za_64, za_65, za_71, za_72, za_73, za_74, za_75, za_76, za_77, za_78, za_79, za_80, za_81, za_82, za_83, za_84, za_85, za_86, za_87, za_88, za_89, za_90, za_91, za_92, za_93, za_94, za_95, za_96, za_97, za_98, za_99, za_100, za_101, za_102, za_103, za_104, za_105, za_106, za_107, za_108, e1]
    rw [gd_t rfl, cal_t x1]
    cases hfa : fA (k / nB) with
    | false =>
      unfold B_X8_composes_416 B_X8_composes_417
      simp (disch := omega) only [zi_t, zi_f, bnd_t, zg_in, zx, nI_ltI, nI_leI, nI_eq, nI_add, pk_mul, pk_sub, mup_s, mup_c, mup_j, mrw_c, if_pos, if_neg, zm_1, zm_2, zm_3, zm_4, zm_5, zm_6, zm_7, zm_8, zm_9, zf_0, zf_1, zf_2, zf_3, zf_4, zf_5, zf_6, zf_7, zf_8, zf_9, zf_10, zf_14, zf_15, zf_16, zf_18, zf_19, zf_20, zf_24, zf_30, zf_31, zf_32, zf_33, zf_99, zf_100, zf_160, zf_200, zf_287, zf_288, zf_300, zf_1000, zf_1023, zf_1024, zf_1600, zf_3840, zf_25600, zf_36000, zf_1000000, zf_1000000000, zf_2000000000, zf_11560, za_1, za_2, za_4, za_5, za_6, za_7, za_8, za_9, za_10, za_11, za_12, za_14, za_15, za_22, za_23, za_25, za_26, za_27, za_28, za_29, za_30, za_31, za_32, za_33, za_34, za_35, za_41, za_42, za_43, za_44, za_45, za_46, za_47, za_48, za_49, za_61, za_62, za_63, za_64, za_65, za_71, za_72, za_73, za_74, za_75, za_76, za_77, za_78, za_79, za_80, za_81, za_82, za_83, za_84, za_85, za_86, za_87, za_88, za_89, za_90, za_91, za_92, za_93, za_94, za_95, za_96, za_97, za_98, za_99, za_100, za_101, za_102, za_103, za_104, za_105, za_106, za_107, za_108, bI_f]
      rfl
    | true =>
      simp (disch := omega) only [zi_t, zi_f, bnd_t, zg_in, zx, nI_ltI, nI_leI, nI_eq, nI_add, pk_mul, pk_sub, mup_s, mup_c, mup_j, mrw_c, if_pos, if_neg, zm_1, zm_2, zm_3, zm_4, zm_5, zm_6, zm_7, zm_8, zm_9, zf_0, zf_1, zf_2, zf_3, zf_4, zf_5, zf_6, zf_7, zf_8, zf_9, zf_10, zf_14, zf_15, zf_16, zf_18, zf_19, zf_20, zf_24, zf_30, zf_31, zf_32, zf_33, zf_99, zf_100, zf_160, zf_200, zf_287, zf_288, zf_300, zf_1000, zf_1023, zf_1024, zf_1600, zf_3840, zf_25600, zf_36000, zf_1000000, zf_1000000000, zf_2000000000, zf_11560, za_1, za_2, za_4, za_5, za_6, za_7, za_8, za_9, za_10, za_11, za_12, za_14, za_15, za_22, za_23, za_25, za_26, za_27, za_28, za_29, za_30, za_31, za_32, za_33, za_34, za_35, za_41, za_42, za_43, za_44, za_45, za_46, za_47, za_48, za_49, za_61, za_62, za_63, za_64, za_65, za_71, za_72, za_73, za_74, za_75, za_76, za_77, za_78, za_79, za_80, za_81, za_82, za_83, za_84, za_85, za_86, za_87, za_88, za_89, za_90, za_91, za_92, za_93, za_94, za_95, za_96, za_97, za_98, za_99, za_100, za_101, za_102, za_103, za_104, za_105, za_106, za_107, za_108, bI_t]
      rw [gd_t rfl, cal_t x2]
      cases hfb : fB (k % nB) with
      | false =>
        unfold B_X8_composes_416 B_X8_composes_417
        simp (disch := omega) only [zi_t, zi_f, bnd_t, zg_in, zx, nI_ltI, nI_leI, nI_eq, nI_add, pk_mul, pk_sub, mup_s, mup_c, mup_j, mrw_c, if_pos, if_neg, zm_1, zm_2, zm_3, zm_4, zm_5, zm_6, zm_7, zm_8, zm_9, zf_0, zf_1, zf_2, zf_3, zf_4, zf_5, zf_6, zf_7, zf_8, zf_9, zf_10, zf_14, zf_15, zf_16, zf_18, zf_19, zf_20, zf_24, zf_30, zf_31, zf_32, zf_33, zf_99, zf_100, zf_160, zf_200, zf_287, zf_288, zf_300, zf_1000, zf_1023, zf_1024, zf_1600, zf_3840, zf_25600, zf_36000, zf_1000000, zf_1000000000, zf_2000000000, zf_11560, za_1, za_2, za_4, za_5, za_6, za_7, za_8, za_9, za_10, za_11, za_12, za_14, za_15, za_22, za_23, za_25, za_26, za_27, za_28, za_29, za_30, za_31, za_32, za_33, za_34, za_35, za_41, za_42, za_43, za_44, za_45, za_46, za_47, za_48, za_49, za_61, za_62, za_63, za_64, za_65, za_71, za_72, za_73, za_74, za_75, za_76, za_77, za_78, za_79, za_80, za_81, za_82, za_83, za_84, za_85, za_86, za_87, za_88, za_89, za_90, za_91, za_92, za_93, za_94, za_95, za_96, za_97, za_98, za_99, za_100, za_101, za_102, za_103, za_104, za_105, za_106, za_107, za_108, bI_f]
        rfl
      | true =>
        unfold B_X8_composes_417
        simp (disch := omega) only [zi_t, zi_f, bnd_t, zg_in, zx, nI_ltI, nI_leI, nI_eq, nI_add, pk_mul, pk_sub, mup_s, mup_c, mup_j, mrw_c, if_pos, if_neg, zm_1, zm_2, zm_3, zm_4, zm_5, zm_6, zm_7, zm_8, zm_9, zf_0, zf_1, zf_2, zf_3, zf_4, zf_5, zf_6, zf_7, zf_8, zf_9, zf_10, zf_14, zf_15, zf_16, zf_18, zf_19, zf_20, zf_24, zf_30, zf_31, zf_32, zf_33, zf_99, zf_100, zf_160, zf_200, zf_287, zf_288, zf_300, zf_1000, zf_1023, zf_1024, zf_1600, zf_3840, zf_25600, zf_36000, zf_1000000, zf_1000000000, zf_2000000000, zf_11560, za_1, za_2, za_4, za_5, za_6, za_7, za_8, za_9, za_10, za_11, za_12, za_14, za_15, za_22, za_23, za_25, za_26, za_27, za_28, za_29, za_30, za_31, za_32, za_33, za_34, za_35, za_41, za_42, za_43, za_44, za_45, za_46, za_47, za_48, za_49, za_61, za_62, za_63, za_64, za_65, za_71, za_72, za_73, za_74, za_75, za_76, za_77, za_78, za_79, za_80, za_81, za_82, za_83, za_84, za_85, za_86, za_87, za_88, za_89, za_90, za_91, za_92, za_93, za_94, za_95, za_96, za_97, za_98, za_99, za_100, za_101, za_102, za_103, za_104, za_105, za_106, za_107, za_108, bI_t]
        rfl
  · rintro F m1 ⟨h1, h2⟩
    have e1 := (mA.fx h1 (by omega)).1
    refine ⟨m1, h1, h2, ?_⟩
    show S_X8_composes_369 N (L_X8_composes_369 N F) m1 (nI i) (nI j) (nI nB) (nI (nB * nA)) = _
    unfold S_X8_composes_369 tW
    simp (disch := omega) only [zi_t, zi_f, bnd_t, zg_in, zx, nI_ltI, nI_leI, nI_eq, nI_add, pk_mul, pk_sub, mup_s, mup_c, mup_j, mrw_c, if_pos, if_neg, zm_1, zm_2, zm_3, zm_4, zm_5, zm_6, zm_7, zm_8, zm_9, zf_0, zf_1, zf_2, zf_3, zf_4, zf_5, zf_6, zf_7, zf_8, zf_9, zf_10, zf_14, zf_15, zf_16, zf_18, zf_19, zf_20, zf_24, zf_30, zf_31, zf_32, zf_33, zf_99, zf_100, zf_160, zf_200, zf_287, zf_288, zf_300, zf_1000, zf_1023, zf_1024, zf_1600, zf_3840, zf_25600, zf_36000, zf_1000000, zf_1000000000, zf_2000000000, zf_11560, za_1, za_2, za_4, za_5, za_6, za_7, za_8, za_9, za_10, za_11, za_12, za_14, za_15, za_22, za_23, za_25, za_26, za_27, za_28, za_29, za_30, za_31, za_32, za_33, za_34, za_35, za_41, za_42, za_43, za_44, za_45, za_46, za_47, za_48, za_49, za_61, za_62, za_63, za_64, za_65, za_71, za_72, za_73, za_74, za_75, za_76, za_77, za_78, za_79, za_80, za_81, za_82, za_83, za_84, za_85, za_86, za_87, za_88, za_89, za_90, za_91, za_92, za_93, za_94, za_95, za_96, za_97, za_98, za_99, za_100, za_101, za_102, za_103, za_104, za_105, za_106, za_107, za_108, e1]
theorem mw_cpMoves {N i j nA nB : Nat} {fA fB : Nat → Bool} {LA LB D : ArL} {m0 m : Mem} (hN : 40000 < N) (hi : i < 24) (hj : j < 24) (h : MW m (fun _ => false) D) (hF : Fx 80 83 [14] m0 m) (hA2 : nA ≤ 32) (hB1 : 1 ≤ nB) (hB2 : nB ≤ 32) (mA : MM m0 i nA (eB fA nA) LA) (mB : MM m0 j nB (eB fB nB) LB) (okB : DOK nB LB) (lB : LB.length ≤ 160) (hD : D.length ≤ 25600) :
    ∃ m', Fx 80 83 [14] m0 m' ∧ MW m' (cmE fA fB nB (nB * nA)) (D ++ LB.flatMap (mv2 nA nB)) ∧ L_X8_composes_267 N N m (nI i) (nI j) (nI nB) (nI (160 * j)) = tW N m' (nI 0) := by
  have hn2 : nA * nB ≤ 1024 := Nat.mul_le_mul hA2 hB2
  refine loopF (fun F (m : Mem) k => L_X8_composes_267 N F m (nI i) (nI j) (nI nB) (nI (160 * j + k))) LB.length (fun k m' => Fx 80 83 [14] m0 m' ∧ MW m' (fun _ => false) (D ++ (LB.take k).flatMap (mv2 nA nB))) (fun o => ∃ m', Fx 80 83 [14] m0 m' ∧ MW m' (cmE fA fB nB (nB * nA)) (D ++ LB.flatMap (mv2 nA nB)) ∧ o = tW N m' (nI 0)) ?_ ?_ N 0 m (Nat.zero_le _) ⟨hF, by show MW m _ (D ++ []); rw [List.append_nil]; exact h⟩ (by omega)
  · rintro F k m1 hk ⟨h1, h2⟩
    obtain ⟨q, hq⟩ : ∃ q, LB[k]? = some q := ⟨_, List.getElem?_eq_getElem hk⟩
    have hqm := okB q (List.mem_of_getElem? hq)
    have hq2 : q.1 / 262144 < nB := hqm.2.1
    have hq3 : q.1 % 1024 < nB := hqm.2.2.1
    have hq4 : q.1 / 16384 % 16 ≤ 8 := hqm.2.2.2.1
    have hq5 : q.1 / 1024 % 16 ≤ 8 := hqm.2.2.2.2.1
    have mB1 := mB.fx h1 (by omega)
    have b74 := mB1.2.2.1
    have hfl : ((LB.take k).flatMap (mv2 nA nB)).length ≤ 32 * k := by
      have := fm_len (h := mv2 nA nB) (c := 32) (LB.take k) (fun a _ => mv2_32 hA2 a)
      rw [List.length_take] at this
      omega
    refine Or.inl ?_
    show ∃ s', _ ∧ S_X8_composes_267 N (L_X8_composes_267 N F) m1 (nI i) (nI j) (nI nB) (nI (160 * j + k)) = L_X8_composes_267 N F s' (nI i) (nI j) (nI nB) (nI (160 * j + (k + 1)))
    unfold S_X8_composes_267
    simp (disch := omega) only [zi_t, zi_f, bnd_t, zg_in, zx, nI_ltI, nI_leI, nI_eq, nI_add, pk_mul, pk_sub, mup_s, mup_c, mup_j, mrw_c, if_pos, if_neg, zm_1, zm_2, zm_3, zm_4, zm_5, zm_6, zm_7, zm_8, zm_9, zf_0, zf_1, zf_2, zf_3, zf_4, zf_5, zf_6, zf_7, zf_8, zf_9, zf_10, zf_14, zf_15, zf_16, zf_18, zf_19, zf_20, zf_24, zf_30, zf_31, zf_32, zf_33, zf_99, zf_100, zf_160, zf_200, zf_287, zf_288, zf_300, zf_1000, zf_1023, zf_1024, zf_1600, zf_3840, zf_25600, zf_36000, zf_1000000, zf_1000000000, zf_2000000000, zf_11560, za_1, za_2, za_4, za_5, za_6, za_7, za_8, za_9, za_10, za_11, za_12, za_14, za_15, za_22, za_23, za_25, za_26, za_27, za_28, za_29, za_30, za_31, za_32, za_33, za_34, za_35, za_41, za_42, za_43, za_44, za_45, za_46, za_47, za_48, za_49, za_61, za_62, za_63, za_64, za_65, za_71, za_72, za_73, za_74, za_75, za_76, za_77, za_78, za_79, za_80, za_81, za_82, za_83, za_84, za_85, za_86, za_87, za_88, za_89, za_90, za_91, za_92, za_93, za_94, za_95, za_96, za_97, za_98, za_99, za_100, za_101, za_102, za_103, za_104, za_105, za_106, za_107, za_108, b74]
    by_cases c1 : q.1 / 16384 % 16 = 8
    · have hmv : mv2 nA nB q = bA (fun s => (pkA (s * nB + q.1 / 262144) 8 (q.1 / 1024 % 16) (s * nB + q.1 % 1024), q.2)) nA := if_pos c1
      refine loopF (fun g (m : Mem) s => L_X8_composes_287 N (L_X8_composes_267 N F) g m (nI i) (nI j) (nI nB) (nI (160 * j + k)) (nI s)) nA (fun s m' => Fx 80 83 [14] m0 m' ∧ MW m' (fun _ => false) (D ++ (LB.take k).flatMap (mv2 nA nB) ++ bA (fun s => (pkA (s * nB + q.1 / 262144) 8 (q.1 / 1024 % 16) (s * nB + q.1 % 1024), q.2)) s))
        (fun o => ∃ s', (Fx 80 83 [14] m0 s' ∧ MW s' (fun _ => false) (D ++ (LB.take (k + 1)).flatMap (mv2 nA nB))) ∧ o = L_X8_composes_267 N F s' (nI i) (nI j) (nI nB) (nI (160 * j + (k + 1)))) ?_ ?_ N 0 m1 (Nat.zero_le _) ⟨h1, by show MW m1 _ (_ ++ []); rw [List.append_nil]; exact h2⟩ (by omega)
      · rintro g s m2 hs ⟨k1, k2⟩
        have mA2 := mA.fx k1 (by omega)
        have mB2 := mB.fx k1 (by omega)
        obtain ⟨b75, b76, b77, b78, b79⟩ := mB2.2.2.2 k q hq
        have b72 := mA2.1
        have s1 := cp_lt hs hq2
        have s2 := cp_lt hs hq3
        obtain ⟨m3, g1, g2, g3⟩ := mw_adds (N := N) (s := nB * s + q.1 / 262144) (u := 8) (l := q.1 / 1024 % 16) (t := nB * s + q.1 % 1024) (c := q.2) k2 (by rw [List.length_append, List.length_append, bA_len]; omega) (by rw [Nat.mul_comm]; omega) (by omega) hq5 (by rw [Nat.mul_comm]; omega)
        refine Or.inl ⟨m3, ⟨k1.tr (g3.wd (by omega) (by omega) (by simp)), ?_⟩, ?_⟩
        · rw [bA_s, ← List.append_assoc]
          rw [Nat.mul_comm nB s] at g2
          exact g2
        · show S_X8_composes_287 N (L_X8_composes_267 N F) (L_X8_composes_287 N (L_X8_composes_267 N F) g) m2 (nI i) (nI j) (nI nB) (nI (160 * j + k)) (nI s) = _
          unfold S_X8_composes_287
          simp (disch := omega) only [zi_t, zi_f, bnd_t, zg_in, zx, nI_ltI, nI_leI, nI_eq, nI_add, pk_mul, pk_sub, mup_s, mup_c, mup_j, mrw_c, if_pos, if_neg, zm_1, zm_2, zm_3, zm_4, zm_5, zm_6, zm_7, zm_8, zm_9, zf_0, zf_1, zf_2, zf_3, zf_4, zf_5, zf_6, zf_7, zf_8, zf_9, zf_10, zf_14, zf_15, zf_16, zf_18, zf_19, zf_20, zf_24, zf_30, zf_31, zf_32, zf_33, zf_99, zf_100, zf_160, zf_200, zf_287, zf_288, zf_300, zf_1000, zf_1023, zf_1024, zf_1600, zf_3840, zf_25600, zf_36000, zf_1000000, zf_1000000000, zf_2000000000, zf_11560, za_1, za_2, za_4, za_5, za_6, za_7, za_8, za_9, za_10, za_11, za_12, za_14, za_15, za_22, za_23, za_25, za_26, za_27, za_28, za_29, za_30, za_31, za_32, za_33, za_34, za_35, za_41, za_42, za_43, za_44, za_45, za_46, za_47, za_48, za_49, za_61, za_62, za_63, za_64, za_65, za_71, za_72, za_73, za_74, za_75, za_76, za_77, za_78, za_79, za_80, za_81, za_82, za_83, za_84, za_85, za_86, za_87, za_88, za_89, za_90, za_91, za_92, za_93, za_94, za_95, za_96, za_97, za_98, za_99, za_100, za_101, za_102, za_103, za_104, za_105, za_106, za_107, za_108, b72, b75, b76, b77, b78, b79, c1]
          rw [calv_t g1]
      · rintro g m2 ⟨k1, k2⟩
        have b72 := (mA.fx k1 (by omega)).1
        refine ⟨m2, ⟨k1, by rw [fm_s hq, hmv, ← List.append_assoc]; exact k2⟩, ?_⟩
        show S_X8_composes_287 N (L_X8_composes_267 N F) (L_X8_composes_287 N (L_X8_composes_267 N F) g) m2 (nI i) (nI j) (nI nB) (nI (160 * j + k)) (nI nA) = _
        unfold S_X8_composes_287 B_X8_composes_360
        simp (disch := omega) only [zi_t, zi_f, bnd_t, zg_in, zx, nI_ltI, nI_leI, nI_eq, nI_add, pk_mul, pk_sub, mup_s, mup_c, mup_j, mrw_c, if_pos, if_neg, zm_1, zm_2, zm_3, zm_4, zm_5, zm_6, zm_7, zm_8, zm_9, zf_0, zf_1, zf_2, zf_3, zf_4, zf_5, zf_6, zf_7, zf_8, zf_9, zf_10, zf_14, zf_15, zf_16, zf_18, zf_19, zf_20, zf_24, zf_30, zf_31, zf_32, zf_33, zf_99, zf_100, zf_160, zf_200, zf_287, zf_288, zf_300, zf_1000, zf_1023, zf_1024, zf_1600, zf_3840, zf_25600, zf_36000, zf_1000000, zf_1000000000, zf_2000000000, zf_11560, za_1, za_2, za_4, za_5, za_6, za_7, za_8, za_9, za_10, za_11, za_12, za_14, za_15, za_22, za_23, za_25, za_26, za_27, za_28, za_29, za_30, za_31, za_32, za_33, za_34, za_35, za_41, za_42, za_43, za_44, za_45, za_46, za_47, za_48, za_49, za_61, za_62, za_63, za_64, za_65, za_71, za_72, za_73, za_74, za_75, za_76, za_77, za_78, za_79, za_80, za_81, za_82, za_83, za_84, za_85, za_86, za_87, za_88, za_89, za_90, za_91, za_92, za_93, za_94, za_95, za_96, za_97, za_98, za_99, za_100, za_101, za_102, za_103, za_104, za_105, za_106, za_107, za_108, b72]
        rfl
    · have hmv : mv2 nA nB q = [] := if_neg c1
      have b72 := (mA.fx h1 (by omega)).1
      obtain ⟨b75, b76, b77, b78, b79⟩ := mB1.2.2.2 k q hq
      refine ⟨m1, ⟨h1, by rw [fm_s hq, hmv, List.append_nil]; exact h2⟩, ?_⟩
      obtain ⟨g, rfl⟩ : ∃ g, N = g + 1 := ⟨N - 1, by omega⟩
      show S_X8_composes_287 (g + 1) (L_X8_composes_267 (g + 1) F) (L_X8_composes_287 (g + 1) (L_X8_composes_267 (g + 1) F) g) m1 (nI i) (nI j) (nI nB) (nI (160 * j + k)) (nI 0) = _
      unfold S_X8_composes_287 B_X8_composes_360
      have hu : upr q.1 ≤ 8 := hq4
      have c2 : ¬ nI (upr q.1) = nI 8 := fun h => c1 ((nI_eq (a := upr q.1) (b := 8) (by omega) (by omega)).mp h)
      simp (disch := omega) only [zi_t, zi_f, bnd_t, zg_in, zx, nI_ltI, nI_leI, nI_eq, nI_add, pk_mul, pk_sub, mup_s, mup_c, mup_j, mrw_c, if_pos, if_neg, zm_1, zm_2, zm_3, zm_4, zm_5, zm_6, zm_7, zm_8, zm_9, zf_0, zf_1, zf_2, zf_3, zf_4, zf_5, zf_6, zf_7, zf_8, zf_9, zf_10, zf_14, zf_15, zf_16, zf_18, zf_19, zf_20, zf_24, zf_30, zf_31, zf_32, zf_33, zf_99, zf_100, zf_160, zf_200, zf_287, zf_288, zf_300, zf_1000, zf_1023, zf_1024, zf_1600, zf_3840, zf_25600, zf_36000, zf_1000000, zf_1000000000, zf_2000000000, zf_11560, za_1, za_2, za_4, za_5, za_6, za_7, za_8, za_9, za_10, za_11, za_12, za_14, za_15, za_22, za_23, za_25, za_26, za_27, za_28, za_29, za_30, za_31, za_32, za_33, za_34, za_35, za_41, za_42, za_43, za_44, za_45, za_46, za_47, za_48, za_49, za_61, za_62, za_63, za_64, za_65, za_71, za_72, za_73, za_74, za_75, za_76, za_77, za_78, za_79, za_80, za_81, za_82, za_83, za_84, za_85, za_86, za_87, za_88, za_89, za_90, za_91, za_92, za_93, za_94, za_95, za_96, za_97, za_98, za_99, za_100, za_101, za_102, za_103, za_104, za_105, za_106, za_107, za_108, b72, b76, c2]
      split
      · rfl
      · rfl
  · rintro F m1 ⟨h1, h2⟩
    rw [List.take_of_length_le (Nat.le_refl _)] at h2
    have b74 := (mB.fx h1 (by omega)).2.2.1
    show ∃ m', _ ∧ _ ∧ S_X8_composes_267 N (L_X8_composes_267 N F) m1 (nI i) (nI j) (nI nB) (nI (160 * j + LB.length)) = _
    unfold S_X8_composes_267
    simp (disch := omega) only [zi_t, zi_f, bnd_t, zg_in, zx, nI_ltI, nI_leI, nI_eq, nI_add, pk_mul, pk_sub, mup_s, mup_c, mup_j, mrw_c, if_pos, if_neg, zm_1, zm_2, zm_3, zm_4, zm_5, zm_6, zm_7, zm_8, zm_9, zf_0, zf_1, zf_2, zf_3, zf_4, zf_5, zf_6, zf_7, zf_8, zf_9, zf_10, zf_14, zf_15, zf_16, zf_18, zf_19, zf_20, zf_24, zf_30, zf_31, zf_32, zf_33, zf_99, zf_100, zf_160, zf_200, zf_287, zf_288, zf_300, zf_1000, zf_1023, zf_1024, zf_1600, zf_3840, zf_25600, zf_36000, zf_1000000, zf_1000000000, zf_2000000000, zf_11560, za_1, za_2, za_4, za_5, za_6, za_7, za_8, za_9, za_10, za_11, za_12, za_14, za_15, za_22, za_23, za_25, za_26, za_27, za_28, za_29, za_30, za_31, za_32, za_33, za_34, za_35, za_41, za_42, za_43, za_44, za_45, za_46, za_47, za_48, za_49, za_61, za_62, za_63, za_64, za_65, za_71, za_72, za_73, za_74, za_75, za_76, za_77, za_78, za_79, za_80, za_81, za_82, za_83, za_84, za_85, za_86, za_87, za_88, za_89, za_90, za_91, za_92, za_93, za_94, za_95, za_96, za_97, za_98, za_99, za_100, za_101, za_102, za_103, za_104, za_105, za_106, za_107, za_108, b74]
    exact mw_cpEnds hN hi hj h2 h1 hA2 hB1 hB2 mA mB
