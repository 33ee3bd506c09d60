def GRow (m : Mem) (q c : Nat) (G : Nat → Option Nat) : Prop := ∀ i, i < c → m q i = an (G i)
def QQ (m : Mem) (q q' : Nat) : Prop := m 20 10 = nI q ∧ m 20 11 = nI q' ∧ ((q = 33 ∧ q' = 34) ∨ (q = 34 ∧ q' = 33))
def GB (c : Nat) (G : Nat → Option Nat) : Prop := ∀ i g, i < c → G i = some g → g < 1000
theorem q_knd {q : Nat} (h : q = 33 ∨ q = 34) : (knd q == 10) = true ∧ alen q = 200 := by
  rcases h with rfl | rfl
  · exact ⟨rfl, rfl⟩
  · exact ⟨rfl, rfl⟩
theorem cl_groupBehind {N q q' i x : Nat} {m : Mem} {s : XS} {d : Nat → Nat → Option Nat} {G : Nat → Option Nat} (h : CX m s (8 * s.1.length)) (hl : s.1.length ≤ 200) (hd : DOf s d) (hq : QQ m q q') (hG : GRow m q s.1.length G) (hi : i < s.1.length) (hx : x < 8) : F_X5_groupBehind N m (nI i) (nI x) = some (an (gb d G i x), m) := by
  obtain ⟨e1, e2⟩ := hd i x hi hx
  have e29 := h.2.2.2.2 (8 * i + x) (by omega)
  rw [e1] at e29
  have eJ : i * 8 + x = 8 * i + x := by omega
  have hq1 := hq.1
  have hqq : q = 33 ∨ q = 34 := by rcases hq.2.2 with ⟨h, _⟩ | ⟨h, _⟩ <;> omega
  obtain ⟨k1, k2⟩ := q_knd hqq
  unfold F_X5_groupBehind B_X5_groupBehind_26 gb
  cases hdx : d i x with
  | none =>
    rw [hdx] at e29
    have e29 : m 29 (8 * i + x) = nM := e29
    simp (disch := omega) only [zi_t, zi_f, bnd_t, zg_in, zx, nI_ltI, nI_leI, nI_eq, nI_add, pk_mul, pk_sub, mup_s, mup_c, mup_j, mrw_c, if_pos, if_neg, zm_1, zm_2, zm_3, zm_4, zm_5, zm_6, zm_7, zm_8, zm_9, zf_0, zf_1, zf_2, zf_3, zf_4, zf_5, zf_6, zf_7, zf_8, zf_9, zf_10, zf_14, zf_15, zf_16, zf_18, zf_19, zf_20, zf_24, zf_30, zf_31, zf_32, zf_33, zf_99, zf_100, zf_160, zf_200, zf_287, zf_288, zf_300, zf_1000, zf_1023, zf_1024, zf_1600, zf_3840, zf_25600, zf_36000, zf_1000000, zf_1000000000, zf_2000000000, zf_11560, za_1, za_2, za_4, za_5, za_6, za_7, za_8, za_9, za_10, za_11, za_12, za_14, za_15, za_22, za_23, za_25, za_26, za_27, za_28, za_29, za_30, za_31, za_32, za_33, za_34, za_35, za_41, za_42, za_43, za_44, za_45, za_46, za_47, za_48, za_49, za_61, za_62, za_63, za_64, za_65, za_70, eJ, e29]
    rfl
  | some k =>
    rw [hdx] at e29
    have e29 : m 29 (8 * i + x) = nI k := e29
    have hk := e2 k hdx
    have eg := hG k hk
    simp (disch := omega) only [zi_t, zi_f, bnd_t, zg_in, zx, nI_ltI, nI_leI, nI_eq, nI_add, pk_mul, pk_sub, mup_s, mup_c, mup_j, mrw_c, if_pos, if_neg, zm_1, zm_2, zm_3, zm_4, zm_5, zm_6, zm_7, zm_8, zm_9, zf_0, zf_1, zf_2, zf_3, zf_4, zf_5, zf_6, zf_7, zf_8, zf_9, zf_10, zf_14, zf_15, zf_16, zf_18, zf_19, zf_20, zf_24, zf_30, zf_31, zf_32, zf_33, zf_99, zf_100, zf_160, zf_200, zf_287, zf_288, zf_300, zf_1000, zf_1023, zf_1024, zf_1600, zf_3840, zf_25600, zf_36000, zf_1000000, zf_1000000000, zf_2000000000, zf_11560, za_1, za_2, za_4, za_5, za_6, za_7, za_8, za_9, za_10, za_11, za_12, za_14, za_15, za_22, za_23, za_25, za_26, za_27, za_28, za_29, za_30, za_31, za_32, za_33, za_34, za_35, za_41, za_42, za_43, za_44, za_45, za_46, za_47, za_48, za_49, za_61, za_62, za_63, za_64, za_65, za_70, eJ, e29, hq1]
    rw [gd_t k1]
    simp (disch := omega) only [zi_t, zi_f, bnd_t, zg_in, zx, nI_ltI, nI_leI, nI_eq, nI_add, pk_mul, pk_sub, mup_s, mup_c, mup_j, mrw_c, if_pos, if_neg, zm_1, zm_2, zm_3, zm_4, zm_5, zm_6, zm_7, zm_8, zm_9, zf_0, zf_1, zf_2, zf_3, zf_4, zf_5, zf_6, zf_7, zf_8, zf_9, zf_10, zf_14, zf_15, zf_16, zf_18, zf_19, zf_20, zf_24, zf_30, zf_31, zf_32, zf_33, zf_99, zf_100, zf_160, zf_200, zf_287, zf_288, zf_300, zf_1000, zf_1023, zf_1024, zf_1600, zf_3840, zf_25600, zf_36000, zf_1000000, zf_1000000000, zf_2000000000, zf_11560, za_1, za_2, za_4, za_5, za_6, za_7, za_8, za_9, za_10, za_11, za_12, za_14, za_15, za_22, za_23, za_25, za_26, za_27, za_28, za_29, za_30, za_31, za_32, za_33, za_34, za_35, za_41, za_42, za_43, za_44, za_45, za_46, za_47, za_48, za_49, za_61, za_62, za_63, za_64, za_65, za_70, k2, eg]
theorem cl_areAlike {N q q' i j : Nat} {m : Mem} {s : XS} {d : Nat → Nat → Option Nat} {G : Nat → Option Nat} (hN : 40000 < N) (h : CX m s (8 * s.1.length)) (hl : s.1.length ≤ 200) (hd : DOf s d) (hq : QQ m q q') (hG : GRow m q s.1.length G) (hb : GB s.1.length G) (hi : i < s.1.length) (hj : j < s.1.length) : F_X5_areAlike N m (nI i) (nI j) = some (bI (decide (sgC d G i = sgC d G j)), m) := by
  have hq1 := hq.1
  have hqq : q = 33 ∨ q = 34 := by rcases hq.2.2 with ⟨h, _⟩ | ⟨h, _⟩ <;> omega
  obtain ⟨k1, k2⟩ := q_knd hqq
  have e1 := hG i hi
  have e2 := hG j hj
  have hgb : ∀ i x, i < s.1.length → x < 8 → ∀ a, gb d G i x = some a → a < 2 ^ 30 := by
    intro i x hi hx a ha
    unfold gb at ha
    cases hdx : d i x with
    | none => rw [hdx] at ha; cases ha
    | some k =>
      rw [hdx] at ha
      have := hb k a ((hd i x hi hx).2 k hdx) ha
      omega
  unfold F_X5_areAlike
  simp (disch := omega) only [zi_t, zi_f, bnd_t, zg_in, zx, nI_ltI, nI_leI, nI_eq, nI_add, pk_mul, pk_sub, mup_s, mup_c, mup_j, mrw_c, if_pos, if_neg, zm_1, zm_2, zm_3, zm_4, zm_5, zm_6, zm_7, zm_8, zm_9, zf_0, zf_1, zf_2, zf_3, zf_4, zf_5, zf_6, zf_7, zf_8, zf_9, zf_10, zf_14, zf_15, zf_16, zf_18, zf_19, zf_20, zf_24, zf_30, zf_31, zf_32, zf_33, zf_99, zf_100, zf_160, zf_200, zf_287, zf_288, zf_300, zf_1000, zf_1023, zf_1024, zf_1600, zf_3840, zf_25600, zf_36000, zf_1000000, zf_1000000000, zf_2000000000, zf_11560, za_1, za_2, za_4, za_5, za_6, za_7, za_8, za_9, za_10, za_11, za_12, za_14, za_15, za_22, za_23, za_25, za_26, za_27, za_28, za_29, za_30, za_31, za_32, za_33, za_34, za_35, za_41, za_42, za_43, za_44, za_45, za_46, za_47, za_48, za_49, za_61, za_62, za_63, za_64, za_65, za_70, hq1]
  rw [gd_t k1, gd_t k1]
  simp (disch := omega) only [zi_t, zi_f, bnd_t, zg_in, zx, nI_ltI, nI_leI, nI_eq, nI_add, pk_mul, pk_sub, mup_s, mup_c, mup_j, mrw_c, if_pos, if_neg, zm_1, zm_2, zm_3, zm_4, zm_5, zm_6, zm_7, zm_8, zm_9, zf_0, zf_1, zf_2, zf_3, zf_4, zf_5, zf_6, zf_7, zf_8, zf_9, zf_10, zf_14, zf_15, zf_16, zf_18, zf_19, zf_20, zf_24, zf_30, zf_31, zf_32, zf_33, zf_99, zf_100, zf_160, zf_200, zf_287, zf_288, zf_300, zf_1000, zf_1023, zf_1024, zf_1600, zf_3840, zf_25600, zf_36000, zf_1000000, zf_1000000000, zf_2000000000, zf_11560, za_1, za_2, za_4, za_5, za_6, za_7, za_8, za_9, za_10, za_11, za_12, za_14, za_15, za_22, za_23, za_25, za_26, za_27, za_28, za_29, za_30, za_31, za_32, za_33, za_34, za_35, za_41, za_42, za_43, za_44, za_45, za_46, za_47, za_48, za_49, za_61, za_62, za_63, za_64, za_65, za_70, e1, e2]
  by_cases c : G i = G j
  · have c' : (an (G i) = an (G j)) = True := by rw [c]; exact eq_self _
    simp (disch := omega) only [zi_t, zi_f, bnd_t, zg_in, zx, nI_ltI, nI_leI, nI_eq, nI_add, pk_mul, pk_sub, mup_s, mup_c, mup_j, mrw_c, if_pos, if_neg, zm_1, zm_2, zm_3, zm_4, zm_5, zm_6, zm_7, zm_8, zm_9, zf_0, zf_1, zf_2, zf_3, zf_4, zf_5, zf_6, zf_7, zf_8, zf_9, zf_10, zf_14, zf_15, zf_16, zf_18, zf_19, zf_20, zf_24, zf_30, zf_31, zf_32, zf_33, zf_99, zf_100, zf_160, zf_200, zf_287, zf_288, zf_300, zf_1000, zf_1023, zf_1024, zf_1600, zf_3840, zf_25600, zf_36000, zf_1000000, zf_1000000000, zf_2000000000, zf_11560, za_1, za_2, za_4, za_5, za_6, za_7, za_8, za_9, za_10, za_11, za_12, za_14, za_15, za_22, za_23, za_25, za_26, za_27, za_28, za_29, za_30, za_31, za_32, za_33, za_34, za_35, za_41, za_42, za_43, za_44, za_45, za_46, za_47, za_48, za_49, za_61, za_62, za_63, za_64, za_65, za_70, c']
    refine loopF (σ := Unit) (fun f _ x => L_X5_areAlike_19 N f m (nI i) (nI j) (nI x)) 8 (fun x _ => ∀ y, y < x → gb d G i y = gb d G j y) (fun o => o = some (bI (decide (sgC d G i = sgC d G j)), m)) ?_ ?_ N 0 () (Nat.zero_le _) (fun y hy => absurd hy (Nat.not_lt_zero _)) (by omega)
    · rintro f x _ hx hI
      have b1 := cl_groupBehind (N := N) h hl hd hq hG hi hx
      have b2 := cl_groupBehind (N := N) h hl hd hq hG hj hx
      show (∃ s' : Unit, _ ∧ S_X5_areAlike_19 N (L_X5_areAlike_19 N f) m (nI i) (nI j) (nI x) = _) ∨ S_X5_areAlike_19 N (L_X5_areAlike_19 N f) m (nI i) (nI j) (nI x) = _
      unfold S_X5_areAlike_19
      simp (disch := omega) only [zi_t, zi_f, bnd_t, zg_in, zx, nI_ltI, nI_leI, nI_eq, nI_add, pk_mul, pk_sub, mup_s, mup_c, mup_j, mrw_c, if_pos, if_neg, zm_1, zm_2, zm_3, zm_4, zm_5, zm_6, zm_7, zm_8, zm_9, zf_0, zf_1, zf_2, zf_3, zf_4, zf_5, zf_6, zf_7, zf_8, zf_9, zf_10, zf_14, zf_15, zf_16, zf_18, zf_19, zf_20, zf_24, zf_30, zf_31, zf_32, zf_33, zf_99, zf_100, zf_160, zf_200, zf_287, zf_288, zf_300, zf_1000, zf_1023, zf_1024, zf_1600, zf_3840, zf_25600, zf_36000, zf_1000000, zf_1000000000, zf_2000000000, zf_11560, za_1, za_2, za_4, za_5, za_6, za_7, za_8, za_9, za_10, za_11, za_12, za_14, za_15, za_22, za_23, za_25, za_26, za_27, za_28, za_29, za_30, za_31, za_32, za_33, za_34, za_35, za_41, za_42, za_43, za_44, za_45, za_46, za_47, za_48, za_49, za_61, za_62, za_63, za_64, za_65, za_70]
      rw [cal_t b1, cal_t b2]
      by_cases e : gb d G i x = gb d G j x
      · left
        refine ⟨(), fun y hy => ?_, ?_⟩
        · by_cases ey : y = x
          · rw [ey]; exact e
          · exact hI y (by omega)
        · have e' : (an (gb d G i x) = an (gb d G j x)) = True := by rw [e]; exact eq_self _
          simp (disch := omega) only [zi_t, zi_f, bnd_t, zg_in, zx, nI_ltI, nI_leI, nI_eq, nI_add, pk_mul, pk_sub, mup_s, mup_c, mup_j, mrw_c, if_pos, if_neg, zm_1, zm_2, zm_3, zm_4, zm_5, zm_6, zm_7, zm_8, zm_9, zf_0, zf_1, zf_2, zf_3, zf_4, zf_5, zf_6, zf_7, zf_8, zf_9, zf_10, zf_14, zf_15, zf_16, zf_18, zf_19, zf_20, zf_24, zf_30, zf_31, zf_32, zf_33, zf_99, zf_100, zf_160, zf_200, zf_287, zf_288, zf_300, zf_1000, zf_1023, zf_1024, zf_1600, zf_3840, zf_25600, zf_36000, zf_1000000, zf_1000000000, zf_2000000000, zf_11560, za_1, za_2, za_4, za_5, za_6, za_7, za_8, za_9, za_10, za_11, za_12, za_14, za_15, za_22, za_23, za_25, za_26, za_27, za_28, za_29, za_30, za_31, za_32, za_33, za_34, za_35, za_41, za_42, za_43, za_44, za_45, za_46, za_47, za_48, za_49, za_61, za_62, za_63, za_64, za_65, za_70, e']
      · right
        have e' : (an (gb d G i x) = an (gb d G j x)) = False := eq_false (fun h => e (an_inj (hgb i x hi hx) (hgb j x hj hx) h))
        rw [decide_eq_false (fun h => e ((sgC_eq.mp h).2 x hx))]
        simp (disch := omega) only [zi_t, zi_f, bnd_t, zg_in, zx, nI_ltI, nI_leI, nI_eq, nI_add, pk_mul, pk_sub, mup_s, mup_c, mup_j, mrw_c, if_pos, if_neg, zm_1, zm_2, zm_3, zm_4, zm_5, zm_6, zm_7, zm_8, zm_9, zf_0, zf_1, zf_2, zf_3, zf_4, zf_5, zf_6, zf_7, zf_8, zf_9, zf_10, zf_14, zf_15, zf_16, zf_18, zf_19, zf_20, zf_24, zf_30, zf_31, zf_32, zf_33, zf_99, zf_100, zf_160, zf_200, zf_287, zf_288, zf_300, zf_1000, zf_1023, zf_1024, zf_1600, zf_3840, zf_25600, zf_36000, zf_1000000, zf_1000000000, zf_2000000000, zf_11560, za_1, za_2, za_4, za_5, za_6, za_7, za_8, za_9, za_10, za_11, za_12, za_14, za_15, za_22, za_23, za_25, za_26, za_27, za_28, za_29, za_30, za_31, za_32, za_33, za_34, za_35, za_41, za_42, za_43, za_44, za_45, za_46, za_47, za_48, za_49, za_61, za_62, za_63, za_64, za_65, za_70, e']
        rfl
    · rintro f _ hI
      rw [decide_eq_true (sgC_eq.mpr ⟨c, hI⟩)]
      show S_X5_areAlike_19 N (L_X5_areAlike_19 N f) m (nI i) (nI j) (nI 8) = _
      unfold S_X5_areAlike_19
      simp (disch := omega) only [zi_t, zi_f, bnd_t, zg_in, zx, nI_ltI, nI_leI, nI_eq, nI_add, pk_mul, pk_sub, mup_s, mup_c, mup_j, mrw_c, if_pos, if_neg, zm_1, zm_2, zm_3, zm_4, zm_5, zm_6, zm_7, zm_8, zm_9, zf_0, zf_1, zf_2, zf_3, zf_4, zf_5, zf_6, zf_7, zf_8, zf_9, zf_10, zf_14, zf_15, zf_16, zf_18, zf_19, zf_20, zf_24, zf_30, zf_31, zf_32, zf_33, zf_99, zf_100, zf_160, zf_200, zf_287, zf_288, zf_300, zf_1000, zf_1023, zf_1024, zf_1600, zf_3840, zf_25600, zf_36000, zf_1000000, zf_1000000000, zf_2000000000, zf_11560, za_1, za_2, za_4, za_5, za_6, za_7, za_8, za_9, za_10, za_11, za_12, za_14, za_15, za_22, za_23, za_25, za_26, za_27, za_28, za_29, za_30, za_31, za_32, za_33, za_34, za_35, za_41, za_42, za_43, za_44, za_45, za_46, za_47, za_48, za_49, za_61, za_62, za_63, za_64, za_65, za_70]
      rfl
  · have c' : (an (G i) = an (G j)) = False := eq_false (fun h => c (an_inj (fun a ha => by have := hb i a hi ha; omega) (fun a ha => by have := hb j a hj ha; omega) h))
    rw [decide_eq_false (fun h => c (sgC_eq.mp h).1)]
    simp (disch := omega) only [zi_t, zi_f, bnd_t, zg_in, zx, nI_ltI, nI_leI, nI_eq, nI_add, pk_mul, pk_sub, mup_s, mup_c, mup_j, mrw_c, if_pos, if_neg, zm_1, zm_2, zm_3, zm_4, zm_5, zm_6, zm_7, zm_8, zm_9, zf_0, zf_1, zf_2, zf_3, zf_4, zf_5, zf_6, zf_7, zf_8, zf_9, zf_10, zf_14, zf_15, zf_16, zf_18, zf_19, zf_20, zf_24, zf_30, zf_31, zf_32, zf_33, zf_99, zf_100, zf_160, zf_200, zf_287, zf_288, zf_300, zf_1000, zf_1023, zf_1024, zf_1600, zf_3840, zf_25600, zf_36000, zf_1000000, zf_1000000000, zf_2000000000, zf_11560, za_1, za_2, za_4, za_5, za_6, za_7, za_8, za_9, za_10, za_11, za_12, za_14, za_15, za_22, za_23, za_25, za_26, za_27, za_28, za_29, za_30, za_31, za_32, za_33, za_34, za_35, za_41, za_42, za_43, za_44, za_45, za_46, za_47, za_48, za_49, za_61, za_62, za_63, za_64, za_65, za_70, c']
    rfl
def MRow (m : Mem) (nw : Nat → Bool) (k : Nat) : Prop := ∀ i, i < k → nw i = true → m 35 (cnt nw i) = nI i
theorem cl_groupLike {N q q' k : Nat} {m : Mem} {s : XS} {d : Nat → Nat → Option Nat} {G : Nat → Option Nat} {u : Nat → Bool} (hN : 40000 < N) (h : CX m s (8 * s.1.length)) (hl : s.1.length ≤ 200) (hd : DOf s d) (hq : QQ m q q') (hG : GRow m q s.1.length G) (hb : GB s.1.length G) (hk : k < s.1.length) (uk : u k = true) (hM : MRow m (nwF (sgC d G) u) k) (hf : cnt (nwF (sgC d G) u) k ≤ 32) : F_X5_groupLike N m (nI k) (nI (cnt (nwF (sgC d G) u) k)) = some (nI (nmF (sgC d G) u k), m) := by
  unfold F_X5_groupLike
  obtain ⟨a1, a2, a3, a4⟩ := rp_spec (sig := sgC d G) uk
  refine loopF (σ := Unit) (fun f _ g => L_X5_groupLike_2 N f m (nI k) (nI (cnt (nwF (sgC d G) u) k)) (nI g)) (cnt (nwF (sgC d G) u) k) (fun g _ => ∀ i, i < k → nwF (sgC d G) u i = true → cnt (nwF (sgC d G) u) i < g → sgC d G i ≠ sgC d G k) (fun o => o = some (nI (nmF (sgC d G) u k), m)) ?_ ?_ N 0 () (Nat.zero_le _) (fun i _ _ h => absurd h (Nat.not_lt_zero _)) (by omega)
  · rintro f g _ hg hI
    obtain ⟨i, hi, hn, hc⟩ := cnt_hit hg
    have e35 := hM i hi hn
    rw [hc] at e35
    have hal := cl_areAlike (N := N) hN h hl hd hq hG hb (by omega : i < s.1.length) hk
    show (∃ s' : Unit, _ ∧ S_X5_groupLike_2 N (L_X5_groupLike_2 N f) m (nI k) (nI (cnt (nwF (sgC d G) u) k)) (nI g) = _) ∨ S_X5_groupLike_2 N (L_X5_groupLike_2 N f) m (nI k) (nI (cnt (nwF (sgC d G) u) k)) (nI g) = _
    unfold S_X5_groupLike_2
    simp (disch := omega) only [zi_t, zi_f, bnd_t, zg_in, zx, nI_ltI, nI_leI, nI_eq, nI_add, pk_mul, pk_sub, mup_s, mup_c, mup_j, mrw_c, if_pos, if_neg, zm_1, zm_2, zm_3, zm_4, zm_5, zm_6, zm_7, zm_8, zm_9, zf_0, zf_1, zf_2, zf_3, zf_4, zf_5, zf_6, zf_7, zf_8, zf_9, zf_10, zf_14, zf_15, zf_16, zf_18, zf_19, zf_20, zf_24, zf_30, zf_31, zf_32, zf_33, zf_99, zf_100, zf_160, zf_200, zf_287, zf_288, zf_300, zf_1000, zf_1023, zf_1024, zf_1600, zf_3840, zf_25600, zf_36000, zf_1000000, zf_1000000000, zf_2000000000, zf_11560, za_1, za_2, za_4, za_5, za_6, za_7, za_8, za_9, za_10, za_11, za_12, za_14, za_15, za_22, za_23, za_25, za_26, za_27, za_28, za_29, za_30, za_31, za_32, za_33, za_34, za_35, za_41, za_42, za_43, za_44, za_45, za_46, za_47, za_48, za_49, za_61, za_62, za_63, za_64, za_65, za_70, e35]
    rw [cal_t hal]
    by_cases e : sgC d G i = sgC d G k
    · right
      have ui := (nw_iff.mp hn).1
      have hr : rpF (sgC d G) u k = i := by rw [← (nw_iff.mp hn).2]; exact ((rp_eq ui uk).mpr e).symm
      have hnm : nmF (sgC d G) u k = g := by unfold nmF; rw [hr, hc]
      rw [decide_eq_true e, hnm]
      simp (disch := omega) only [zi_t, zi_f, bnd_t, zg_in, zx, nI_ltI, nI_leI, nI_eq, nI_add, pk_mul, pk_sub, mup_s, mup_c, mup_j, mrw_c, if_pos, if_neg, zm_1, zm_2, zm_3, zm_4, zm_5, zm_6, zm_7, zm_8, zm_9, zf_0, zf_1, zf_2, zf_3, zf_4, zf_5, zf_6, zf_7, zf_8, zf_9, zf_10, zf_14, zf_15, zf_16, zf_18, zf_19, zf_20, zf_24, zf_30, zf_31, zf_32, zf_33, zf_99, zf_100, zf_160, zf_200, zf_287, zf_288, zf_300, zf_1000, zf_1023, zf_1024, zf_1600, zf_3840, zf_25600, zf_36000, zf_1000000, zf_1000000000, zf_2000000000, zf_11560, za_1, za_2, za_4, za_5, za_6, za_7, za_8, za_9, za_10, za_11, za_12, za_14, za_15, za_22, za_23, za_25, za_26, za_27, za_28, za_29, za_30, za_31, za_32, za_33, za_34, za_35, za_41, za_42, za_43, za_44, za_45, za_46, za_47, za_48, za_49, za_61, za_62, za_63, za_64, za_65, za_70, bI_t]
    · left
      refine ⟨(), fun j hj hnj hcj => ?_, ?_⟩
      · by_cases ej : cnt (nwF (sgC d G) u) j = g
        · have : j = i := by
            rcases Nat.lt_trichotomy i j with c | c | c
            · have := cnt_at hn c; omega
            · exact c.symm
            · have := cnt_at hnj c; omega
          rw [this]; exact e
        · exact hI j hj hnj (by omega)
      · rw [decide_eq_false e]
        simp (disch := omega) only [zi_t, zi_f, bnd_t, zg_in, zx, nI_ltI, nI_leI, nI_eq, nI_add, pk_mul, pk_sub, mup_s, mup_c, mup_j, mrw_c, if_pos, if_neg, zm_1, zm_2, zm_3, zm_4, zm_5, zm_6, zm_7, zm_8, zm_9, zf_0, zf_1, zf_2, zf_3, zf_4, zf_5, zf_6, zf_7, zf_8, zf_9, zf_10, zf_14, zf_15, zf_16, zf_18, zf_19, zf_20, zf_24, zf_30, zf_31, zf_32, zf_33, zf_99, zf_100, zf_160, zf_200, zf_287, zf_288, zf_300, zf_1000, zf_1023, zf_1024, zf_1600, zf_3840, zf_25600, zf_36000, zf_1000000, zf_1000000000, zf_2000000000, zf_11560, za_1, za_2, za_4, za_5, za_6, za_7, za_8, za_9, za_10, za_11, za_12, za_14, za_15, za_22, za_23, za_25, za_26, za_27, za_28, za_29, za_30, za_31, za_32, za_33, za_34, za_35, za_41, za_42, za_43, za_44, za_45, za_46, za_47, za_48, za_49, za_61, za_62, za_63, za_64, za_65, za_70, bI_f]
  · rintro f _ hI
    have hr : rpF (sgC d G) u k = k := by
      rcases Nat.lt_or_ge (rpF (sgC d G) u k) k with c | c
      · exact absurd a3 (hI _ c (nw_rp uk) (cnt_at (nw_rp uk) c))
      · omega
    have hnm : nmF (sgC d G) u k = cnt (nwF (sgC d G) u) k := by unfold nmF; rw [hr]
    rw [hnm]
    show S_X5_groupLike_2 N (L_X5_groupLike_2 N f) m (nI k) (nI (cnt (nwF (sgC d G) u) k)) (nI (cnt (nwF (sgC d G) u) k)) = _
    unfold S_X5_groupLike_2
    simp (disch := omega) only [zi_t, zi_f, bnd_t, zg_in, zx, nI_ltI, nI_leI, nI_eq, nI_add, pk_mul, pk_sub, mup_s, mup_c, mup_j, mrw_c, if_pos, if_neg, zm_1, zm_2, zm_3, zm_4, zm_5, zm_6, zm_7, zm_8, zm_9, zf_0, zf_1, zf_2, zf_3, zf_4, zf_5, zf_6, zf_7, zf_8, zf_9, zf_10, zf_14, zf_15, zf_16, zf_18, zf_19, zf_20, zf_24, zf_30, zf_31, zf_32, zf_33, zf_99, zf_100, zf_160, zf_200, zf_287, zf_288, zf_300, zf_1000, zf_1023, zf_1024, zf_1600, zf_3840, zf_25600, zf_36000, zf_1000000, zf_1000000000, zf_2000000000, zf_11560, za_1, za_2, za_4, za_5, za_6, za_7, za_8, za_9, za_10, za_11, za_12, za_14, za_15, za_22, za_23, za_25, za_26, za_27, za_28, za_29, za_30, za_31, za_32, za_33, za_34, za_35, za_41, za_42, za_43, za_44, za_45, za_46, za_47, za_48, za_49, za_61, za_62, za_63, za_64, za_65, za_70]
def FrG (m m' : Mem) : Prop := (∀ k, k ≠ 20 → (k < 33 ∨ 36 ≤ k) → m' k = m k) ∧ ∀ j, j ≠ 10 → j ≠ 11 → m' 20 j = m 20 j
theorem FrG.rf {m : Mem} : FrG m m := ⟨fun _ _ _ => rfl, fun _ _ _ => rfl⟩
theorem FrG.tr {m m' m'' : Mem} (h : FrG m m') (h2 : FrG m' m'') : FrG m m'' := ⟨fun k a b => by rw [h2.1 k a b, h.1 k a b], fun j a b => by rw [h2.2 j a b, h.2 j a b]⟩
theorem FrG.up {m m' : Mem} {k j : Nat} {x : Int32} (h : FrG m m') (h1 : 33 ≤ k) (h2 : k < 36) : FrG m (mup m' k j x) := ⟨fun c a b => by rw [mup_r (by omega), h.1 c a b], fun i a b => by rw [mup_c (by omega), h.2 i a b]⟩
theorem FrG.sl {m m' : Mem} {j : Nat} {x : Int32} (h : FrG m m') (hj : j = 10 ∨ j = 11) : FrG m (mup m' 20 j x) := ⟨fun c a b => by rw [mup_r a, h.1 c a b], fun i a b => by rw [mup_j (by omega), h.2 i a b]⟩
theorem CX.fg {m m' : Mem} {s : XS} {J : Nat} (h : CX m s J) (hf : FrG m m') : CX m' s J := by
  obtain ⟨t1, t2, t3, t4, t5⟩ := h
  exact ⟨by rw [hf.2 8 (by omega) (by omega)]; exact t1, fun i p hp => by rw [hf.1 27 (by omega) (by omega), hf.1 28 (by omega) (by omega)]; exact t2 i p hp, fun i hi => by rw [hf.1 30 (by omega) (by omega)]; exact t3 i hi, fun i h1 hi => by rw [hf.1 31 (by omega) (by omega)]; exact t4 i h1 hi, fun j hj => by rw [hf.1 29 (by omega) (by omega)]; exact t5 j hj⟩
theorem CW.fg {m m' : Mem} {wn : Nat} {eA eB' : Int32} (h : CW m wn eA eB') (hf : FrG m m') : CW m' wn eA eB' := ⟨by rw [hf.2 2 (by omega) (by omega)]; exact h.1, by rw [hf.1 21 (by omega) (by omega)]; exact h.2.1, by rw [hf.1 24 (by omega) (by omega)]; exact h.2.2⟩
abbrev Gn (d : Nat → Nat → Option Nat) (u : Nat → Bool) (G : Nat → Option Nat) (i : Nat) : Option Nat := if u i = true then some (nmF (sgC d G) u i) else none
theorem cl_split {N q q' : Nat} {m : Mem} {s : XS} {d : Nat → Nat → Option Nat} {G : Nat → Option Nat} {u : Nat → Bool} (hN : 40000 < N) (h : CX m s (8 * s.1.length)) (hl : s.1.length ≤ 200) (hd : DOf s d) (hu : CRw m 32 s.1.length u) (hq : QQ m q q') (hG : GRow m q s.1.length G) (hb : GB s.1.length G) :
    ∃ m', FrG m m' ∧ ((33 ≤ cnt (nwF (sgC d G) u) s.1.length ∧ F_X5_splitGroups N m = some (nI 33, m') ∧ QQ m' q q') ∨ (cnt (nwF (sgC d G) u) s.1.length ≤ 32 ∧ F_X5_splitGroups N m = some (nI (cnt (nwF (sgC d G) u) s.1.length), m') ∧ QQ m' q' q ∧ GRow m' q' s.1.length (Gn d u G) ∧ MRow m' (nwF (sgC d G) u) s.1.length)) := by
  unfold F_X5_splitGroups
  obtain ⟨nw, hnw⟩ : ∃ nw, nw = nwF (sgC d G) u := ⟨_, rfl⟩
  rw [← hnw]
  have hqq : (q = 33 ∧ q' = 34) ∨ (q = 34 ∧ q' = 33) := hq.2.2
  have hqA : q = 33 ∨ q = 34 := by omega
  have hqB : q' = 33 ∨ q' = 34 := by omega
  obtain ⟨kA, lA⟩ := q_knd hqA
  obtain ⟨kB, lB⟩ := q_knd hqB
  have hne : q ≠ q' := by omega
  refine loopF (fun f (m : Mem) k => L_X5_splitGroups_4 N f m (nI (cnt nw k)) (nI k)) s.1.length (fun k m' => FrG m m' ∧ m' q = m q ∧ (∀ j, m' 20 j = m 20 j) ∧ (∀ i, i < k → m' q' i = an (Gn d u G i)) ∧ MRow m' nw k ∧ cnt nw k ≤ 32)
    (fun o => ∃ m', FrG m m' ∧ ((33 ≤ cnt nw s.1.length ∧ o = some (nI 33, m') ∧ QQ m' q q') ∨ (cnt nw s.1.length ≤ 32 ∧ o = some (nI (cnt nw s.1.length), m') ∧ QQ m' q' q ∧ GRow m' q' s.1.length (Gn d u G) ∧ MRow m' nw s.1.length))) ?_ ?_ N 0 m (Nat.zero_le _) ⟨FrG.rf, rfl, fun _ => rfl, fun i hi => absurd hi (Nat.not_lt_zero _), fun i hi => absurd hi (Nat.not_lt_zero _), by show 0 ≤ 32; omega⟩ (by omega)
  · rintro f k m1 hk ⟨i1, i2, i3, i4, i5, i6⟩
    have hX := h.fg i1
    have h20 := hX.1
    have hq1 : QQ m1 q q' := ⟨by rw [i3]; exact hq.1, by rw [i3]; exact hq.2.1, hqq⟩
    have e11 := hq1.2.1
    obtain ⟨m2, hm2⟩ : ∃ m2, m2 = mup m1 q' k nM := ⟨_, rfl⟩
    have f2 : FrG m m2 := by rw [hm2]; exact i1.up (by omega) (by omega)
    have hX2 := h.fg f2
    have j3 : ∀ j, m2 20 j = m 20 j := fun j => by rw [hm2, mup_c (by omega)]; exact i3 j
    have hq2 : QQ m2 q q' := ⟨by rw [j3]; exact hq.1, by rw [j3]; exact hq.2.1, hqq⟩
    have e11' := hq2.2.1
    have hG2 : GRow m2 q s.1.length G := fun i hi => by rw [hm2, mup_c (by omega), i2]; exact hG i hi
    have hM2 : MRow m2 nw k := fun i hi hn => by rw [hm2, mup_c (by omega)]; exact i5 i hi hn
    have e32 : m1 32 k = bI (u k) := by rw [i1.1 32 (by omega) (by omega)]; exact hu k hk
    have hstep : S_X5_splitGroups_4 N (L_X5_splitGroups_4 N f) m1 (nI (cnt nw k)) (nI k) = if m1 32 k = nI 0 then B_X5_splitGroups_66 N (L_X5_splitGroups_4 N f) m2 (nI (cnt nw k)) (nI k) else cal (F_X5_groupLike N m2 (nI k) (nI (cnt nw k))) (fun r14 m13 => if r14 = nI (cnt nw k) then (if nI (cnt nw k) < nI 32 then gd (inb (nI (cnt nw k)) (alen 35)) (bnd (mup m13 35 (ix (nI (cnt nw k))) (nI k)) fun m16 => bnd (nI (cnt nw k) + nI 1) fun y17 => B_X5_splitGroups_59 N (L_X5_splitGroups_4 N f) m16 y17 (nI k) r14) else some (nI 33, m13)) else B_X5_splitGroups_59 N (L_X5_splitGroups_4 N f) m13 (nI (cnt nw k)) (nI k) r14) := by
      unfold S_X5_splitGroups_4
      simp (disch := omega) only [zi_t, zi_f, bnd_t, zg_in, zx, nI_ltI, nI_leI, nI_eq, nI_add, pk_mul, pk_sub, mup_s, mup_c, mup_j, mrw_c, if_pos, if_neg, zm_1, zm_2, zm_3, zm_4, zm_5, zm_6, zm_7, zm_8, zm_9, zf_0, zf_1, zf_2, zf_3, zf_4, zf_5, zf_6, zf_7, zf_8, zf_9, zf_10, zf_14, zf_15, zf_16, zf_18, zf_19, zf_20, zf_24, zf_30, zf_31, zf_32, zf_33, zf_99, zf_100, zf_160, zf_200, zf_287, zf_288, zf_300, zf_1000, zf_1023, zf_1024, zf_1600, zf_3840, zf_25600, zf_36000, zf_1000000, zf_1000000000, zf_2000000000, zf_11560, za_1, za_2, za_4, za_5, za_6, za_7, za_8, za_9, za_10, za_11, za_12, za_14, za_15, za_22, za_23, za_25, za_26, za_27, za_28, za_29, za_30, za_31, za_32, za_33, za_34, za_35, za_41, za_42, za_43, za_44, za_45, za_46, za_47, za_48, za_49, za_61, za_62, za_63, za_64, za_65, za_70, h20, e11]
      rw [gd_t kB]
      rw [← hm2]
    show (∃ s', _ ∧ S_X5_splitGroups_4 N (L_X5_splitGroups_4 N f) m1 (nI (cnt nw k)) (nI k) = L_X5_splitGroups_4 N f s' (nI (cnt nw (k + 1))) (nI (k + 1))) ∨ ∃ m', FrG m m' ∧ ((33 ≤ cnt nw s.1.length ∧ S_X5_splitGroups_4 N (L_X5_splitGroups_4 N f) m1 (nI (cnt nw k)) (nI k) = some (nI 33, m') ∧ QQ m' q q') ∨ (cnt nw s.1.length ≤ 32 ∧ S_X5_splitGroups_4 N (L_X5_splitGroups_4 N f) m1 (nI (cnt nw k)) (nI k) = some (nI (cnt nw s.1.length), m') ∧ QQ m' q' q ∧ GRow m' q' s.1.length (Gn d u G) ∧ MRow m' nw s.1.length))
    rw [hstep, e32]
    have hcs : cnt nw (k + 1) = cnt nw k + if nw k = true then 1 else 0 := rfl
    cases uk : u k with
    | false =>
      have hn : nw k = false := by rw [hnw]; unfold nwF; rw [uk]; rfl
      rw [hn, if_neg (by simp), Nat.add_zero] at hcs
      left
      refine ⟨m2, ⟨f2, by rw [hm2, mup_r hne]; exact i2, j3, fun i hi => ?_, fun i hi hni => ?_, by rw [hcs]; exact i6⟩, ?_⟩
      · by_cases e : i = k
        · rw [e, hm2, mup_s]
          show nM = an (if u k = true then _ else none)
          rw [uk]; rfl
        · rw [hm2, mup_j e]; exact i4 i (by omega)
      · by_cases e : i = k
        · rw [e, hn] at hni; cases hni
        · exact hM2 i (by omega) hni
      · rw [hcs]
        unfold B_X5_splitGroups_66
        simp (disch := omega) only [zi_t, zi_f, bnd_t, zg_in, zx, nI_ltI, nI_leI, nI_eq, nI_add, pk_mul, pk_sub, mup_s, mup_c, mup_j, mrw_c, if_pos, if_neg, zm_1, zm_2, zm_3, zm_4, zm_5, zm_6, zm_7, zm_8, zm_9, zf_0, zf_1, zf_2, zf_3, zf_4, zf_5, zf_6, zf_7, zf_8, zf_9, zf_10, zf_14, zf_15, zf_16, zf_18, zf_19, zf_20, zf_24, zf_30, zf_31, zf_32, zf_33, zf_99, zf_100, zf_160, zf_200, zf_287, zf_288, zf_300, zf_1000, zf_1023, zf_1024, zf_1600, zf_3840, zf_25600, zf_36000, zf_1000000, zf_1000000000, zf_2000000000, zf_11560, za_1, za_2, za_4, za_5, za_6, za_7, za_8, za_9, za_10, za_11, za_12, za_14, za_15, za_22, za_23, za_25, za_26, za_27, za_28, za_29, za_30, za_31, za_32, za_33, za_34, za_35, za_41, za_42, za_43, za_44, za_45, za_46, za_47, za_48, za_49, za_61, za_62, za_63, za_64, za_65, za_70, bI_f, Nat.add_zero]
    | true =>
      have hgl := cl_groupLike (N := N) hN hX2 hl hd hq2 hG2 hb hk uk (by rw [← hnw]; exact hM2) (by rw [← hnw]; exact i6)
      rw [← hnw] at hgl
      have h59 : ∀ (m3 : Mem) (z : Nat), m3 20 11 = nI q' → z ≤ 33 → B_X5_splitGroups_59 N (L_X5_splitGroups_4 N f) m3 (nI z) (nI k) (nI (nmF (sgC d G) u k)) = L_X5_splitGroups_4 N f (mup m3 q' k (nI (nmF (sgC d G) u k))) (nI z) (nI (k + 1)) := by
        intro m3 z h3 hz
        unfold B_X5_splitGroups_59 B_X5_splitGroups_66
        simp (disch := omega) only [zi_t, zi_f, bnd_t, zg_in, zx, nI_ltI, nI_leI, nI_eq, nI_add, pk_mul, pk_sub, mup_s, mup_c, mup_j, mrw_c, if_pos, if_neg, zm_1, zm_2, zm_3, zm_4, zm_5, zm_6, zm_7, zm_8, zm_9, zf_0, zf_1, zf_2, zf_3, zf_4, zf_5, zf_6, zf_7, zf_8, zf_9, zf_10, zf_14, zf_15, zf_16, zf_18, zf_19, zf_20, zf_24, zf_30, zf_31, zf_32, zf_33, zf_99, zf_100, zf_160, zf_200, zf_287, zf_288, zf_300, zf_1000, zf_1023, zf_1024, zf_1600, zf_3840, zf_25600, zf_36000, zf_1000000, zf_1000000000, zf_2000000000, zf_11560, za_1, za_2, za_4, za_5, za_6, za_7, za_8, za_9, za_10, za_11, za_12, za_14, za_15, za_22, za_23, za_25, za_26, za_27, za_28, za_29, za_30, za_31, za_32, za_33, za_34, za_35, za_41, za_42, za_43, za_44, za_45, za_46, za_47, za_48, za_49, za_61, za_62, za_63, za_64, za_65, za_70, h3]
        rw [gd_t kB]
      rw [bI_t, if_neg (by decide), cal_t hgl]
      have hGn : an (Gn d u G k) = nI (nmF (sgC d G) u k) := by
        show an (if u k = true then some (nmF (sgC d G) u k) else none) = _
        rw [if_pos uk]; rfl
      have hnml : nmF (sgC d G) u k ≤ cnt nw k := by
        unfold nmF
        rw [← hnw]
        have := (rp_spec (sig := sgC d G) uk).1
        rcases Nat.lt_or_ge (rpF (sgC d G) u k) k with c | c
        · have h2 := cnt_at (nw_rp (sig := sgC d G) uk) c
          rw [← hnw] at h2; omega
        · rw [show rpF (sgC d G) u k = k by omega]; exact Nat.le_refl _
      cases hn : nw k with
      | true =>
        rw [hn, if_pos rfl] at hcs
        have hnm : nmF (sgC d G) u k = cnt nw k := by rw [hnw] at hn ⊢; exact nm_nw hn
        rw [if_pos (by rw [hnm])]
        by_cases c32 : cnt nw k < 32
        · left
          refine ⟨mup (mup m2 35 (cnt nw k) (nI k)) q' k (nI (nmF (sgC d G) u k)), ⟨(f2.up (by omega) (by omega)).up (by omega) (by omega), ?_, fun j => ?_, fun i hi => ?_, fun i hi hni => ?_, by rw [hcs]; omega⟩, ?_⟩
          · rw [mup_r hne, mup_r (by omega), hm2, mup_r hne]; exact i2
          · rw [mup_c (by omega), mup_c (by omega)]; exact j3 j
          · rw [mup_if]
            by_cases e : i = k
            · rw [if_pos e, e, hGn]
            · rw [if_neg e, mup_c (by omega), hm2, mup_j e]; exact i4 i (by omega)
          · rw [mup_c (by omega), mup_if]
            by_cases e : i = k
            · rw [e, if_pos rfl]
            · have hik : i < k := by omega
              have := cnt_at hni hik
              rw [if_neg (by omega)]
              exact hM2 i hik hni
          · rw [if_pos ((nI_ltI (by omega) (by omega)).mpr c32), hcs]
            have := h59 (mup m2 35 (cnt nw k) (nI k)) (cnt nw k + 1) (by rw [mup_c (by omega)]; exact e11') (by omega)
            rw [← this]
            simp (disch := omega) only [zi_t, zi_f, bnd_t, zg_in, zx, nI_ltI, nI_leI, nI_eq, nI_add, pk_mul, pk_sub, mup_s, mup_c, mup_j, mrw_c, if_pos, if_neg, zm_1, zm_2, zm_3, zm_4, zm_5, zm_6, zm_7, zm_8, zm_9, zf_0, zf_1, zf_2, zf_3, zf_4, zf_5, zf_6, zf_7, zf_8, zf_9, zf_10, zf_14, zf_15, zf_16, zf_18, zf_19, zf_20, zf_24, zf_30, zf_31, zf_32, zf_33, zf_99, zf_100, zf_160, zf_200, zf_287, zf_288, zf_300, zf_1000, zf_1023, zf_1024, zf_1600, zf_3840, zf_25600, zf_36000, zf_1000000, zf_1000000000, zf_2000000000, zf_11560, za_1, za_2, za_4, za_5, za_6, za_7, za_8, za_9, za_10, za_11, za_12, za_14, za_15, za_22, za_23, za_25, za_26, za_27, za_28, za_29, za_30, za_31, za_32, za_33, za_34, za_35, za_41, za_42, za_43, za_44, za_45, za_46, za_47, za_48, za_49, za_61, za_62, za_63, za_64, za_65, za_70]
        · right
          have hle : cnt nw (k + 1) ≤ cnt nw s.1.length := by
            rcases Nat.lt_or_ge (k + 1) s.1.length with c | c
            · have : ∀ a b, a ≤ b → cnt nw a ≤ cnt nw b := by
                intro a b hab
                induction b with
                | zero => rw [show a = 0 by omega]; exact Nat.le_refl _
                | succ b ih =>
                  by_cases e : a = b + 1
                  · rw [e]; exact Nat.le_refl _
                  · have := ih (by omega)
                    rw [cnt]; omega
              exact this _ _ (by omega)
            · rw [show s.1.length = k + 1 by omega]; exact Nat.le_refl _
          refine ⟨m2, f2, Or.inl ⟨by omega, ?_, hq2⟩⟩
          rw [if_neg (fun hc => c32 ((nI_ltI (by omega) (by omega)).mp hc))]
      | false =>
        rw [hn, if_neg (by simp), Nat.add_zero] at hcs
        have hnm : nmF (sgC d G) u k ≠ cnt nw k := by
          intro e
          have hr : rpF (sgC d G) u k ≠ k := by
            intro hr
            rw [hnw] at hn
            unfold nwF at hn
            rw [uk, decide_eq_true hr] at hn
            cases hn
          have := (rp_spec (sig := sgC d G) uk).1
          have h2 := cnt_at (nw_rp (sig := sgC d G) uk) (by omega : rpF (sgC d G) u k < k)
          unfold nmF at e
          rw [hnw] at e
          omega
        rw [if_neg (fun hc => hnm ((nI_eq (by omega) (by omega)).mp hc))]
        left
        refine ⟨mup m2 q' k (nI (nmF (sgC d G) u k)), ⟨f2.up (by omega) (by omega), ?_, fun j => ?_, fun i hi => ?_, fun i hi hni => ?_, by rw [hcs]; exact i6⟩, ?_⟩
        · rw [mup_r hne, hm2, mup_r hne]; exact i2
        · rw [mup_c (by omega)]; exact j3 j
        · rw [mup_if]
          by_cases e : i = k
          · rw [if_pos e, e, hGn]
          · rw [if_neg e, hm2, mup_j e]; exact i4 i (by omega)
        · by_cases e : i = k
          · rw [e, hn] at hni; cases hni
          · rw [mup_c (by omega)]
            exact hM2 i (by omega) hni
        · rw [hcs]
          exact h59 m2 (cnt nw k) e11' (by omega)
  · rintro f m1 ⟨i1, i2, i3, i4, i5, i6⟩
    have hX := h.fg i1
    have h20 := hX.1
    have e10 : m1 20 10 = nI q := by rw [i3]; exact hq.1
    have e11 : m1 20 11 = nI q' := by rw [i3]; exact hq.2.1
    refine ⟨mup (mup m1 20 10 (nI q')) 20 11 (nI q), (i1.sl (Or.inl rfl)).sl (Or.inr rfl), Or.inr ⟨i6, ?_, ⟨by simp (disch := omega) only [zi_t, zi_f, bnd_t, zg_in, zx, nI_ltI, nI_leI, nI_eq, nI_add, pk_mul, pk_sub, mup_s, mup_c, mup_j, mrw_c, if_pos, if_neg, zm_1, zm_2, zm_3, zm_4, zm_5, zm_6, zm_7, zm_8, zm_9, zf_0, zf_1, zf_2, zf_3, zf_4, zf_5, zf_6, zf_7, zf_8, zf_9, zf_10, zf_14, zf_15, zf_16, zf_18, zf_19, zf_20, zf_24, zf_30, zf_31, zf_32, zf_33, zf_99, zf_100, zf_160, zf_200, zf_287, zf_288, zf_300, zf_1000, zf_1023, zf_1024, zf_1600, zf_3840, zf_25600, zf_36000, zf_1000000, zf_1000000000, zf_2000000000, zf_11560, za_1, za_2, za_4, za_5, za_6, za_7, za_8, za_9, za_10, za_11, za_12, za_14, za_15, za_22, za_23, za_25, za_26, za_27, za_28, za_29, za_30, za_31, za_32, za_33, za_34, za_35, za_41, za_42, za_43, za_44, za_45, za_46, za_47, za_48, za_49, za_61, za_62, za_63, za_64, za_65, za_70], by simp (disch := omega) only [zi_t, zi_f, bnd_t, zg_in, zx, nI_ltI, nI_leI, nI_eq, nI_add, pk_mul, pk_sub, mup_s, mup_c, mup_j, mrw_c, if_pos, if_neg, zm_1, zm_2, zm_3, zm_4, zm_5, zm_6, zm_7, zm_8, zm_9, zf_0, zf_1, zf_2, zf_3, zf_4, zf_5, zf_6, zf_7, zf_8, zf_9, zf_10, zf_14, zf_15, zf_16, zf_18, zf_19, zf_20, zf_24, zf_30, zf_31, zf_32, zf_33, zf_99, zf_100, zf_160, zf_200, zf_287, zf_288, zf_300, zf_1000, zf_1023, zf_1024, zf_1600, zf_3840, zf_25600, zf_36000, zf_1000000, zf_1000000000, zf_2000000000, zf_11560, za_1, za_2, za_4, za_5, za_6, za_7, za_8, za_9, za_10, za_11, za_12, za_14, za_15, za_22, za_23, za_25, za_26, za_27, za_28, za_29, za_30, za_31, za_32, za_33, za_34, za_35, za_41, za_42, za_43, za_44, za_45, za_46, za_47, za_48, za_49, za_61, za_62, za_63, za_64, za_65, za_70], by omega⟩, fun i hi => ?_, fun i hi hn => ?_⟩⟩
    · show S_X5_splitGroups_4 N (L_X5_splitGroups_4 N f) m1 (nI (cnt nw s.1.length)) (nI s.1.length) = _
      unfold S_X5_splitGroups_4
      simp (disch := omega) only [zi_t, zi_f, bnd_t, zg_in, zx, nI_ltI, nI_leI, nI_eq, nI_add, pk_mul, pk_sub, mup_s, mup_c, mup_j, mrw_c, if_pos, if_neg, zm_1, zm_2, zm_3, zm_4, zm_5, zm_6, zm_7, zm_8, zm_9, zf_0, zf_1, zf_2, zf_3, zf_4, zf_5, zf_6, zf_7, zf_8, zf_9, zf_10, zf_14, zf_15, zf_16, zf_18, zf_19, zf_20, zf_24, zf_30, zf_31, zf_32, zf_33, zf_99, zf_100, zf_160, zf_200, zf_287, zf_288, zf_300, zf_1000, zf_1023, zf_1024, zf_1600, zf_3840, zf_25600, zf_36000, zf_1000000, zf_1000000000, zf_2000000000, zf_11560, za_1, za_2, za_4, za_5, za_6, za_7, za_8, za_9, za_10, za_11, za_12, za_14, za_15, za_22, za_23, za_25, za_26, za_27, za_28, za_29, za_30, za_31, za_32, za_33, za_34, za_35, za_41, za_42, za_43, za_44, za_45, za_46, za_47, za_48, za_49, za_61, za_62, za_63, za_64, za_65, za_70, h20, e10, e11]
      rw [gd_t kA, gd_t kB]
    · rw [mup_c (by omega), mup_c (by omega)]; exact i4 i hi
    · rw [mup_c (by omega), mup_c (by omega)]; exact i5 i hi hn
