def iniV (f : Nat → Bool) (w : List Nat) (δ : Nat → Nat) (p x : Nat) : Nat := if x / 32 = p then (if p = w.length ∧ f (x % 32) = true then 0 else 1000000000) else δ x
theorem cl_measure {N a n way : Nat} {f : Nat → Bool} {L : ArL} {w : List Nat} {δ : Nat → Nat} {m : Mem} (hN : 40000 < N) (ha : 200 ≤ a) (ha2 : a < 300) (hk : (knd a == 3) = true) (h : SC m a way n (eB f n) L w) (hok : DOK n L) (hl : L.length ≤ 160) (hway : way < 3) (hwl : w.length ≤ 8) (hwx : ∀ x, x ∈ w → x < 8) (hn : n ≤ 32) (hδ : IsD (eG way L w) (En n f w) δ) :
    ∃ m', F_X4_measure N m = some m' ∧ Off 46 47 m m' ∧ TD m' n w 0 δ := by
  have hb := eg_bd (way := way) (w := w) hwl hn hok
  have hδle : ∀ x, δ x ≤ 1000000000 := by
    intro x
    rcases hδ.le hb x with h | h <;> omega
  have key : ∀ t m1, t ≤ w.length + 1 → Off 46 47 m m1 → TD m1 n w t δ → ∀ g, t + 40 < g → ∃ m', L_X4_measure_5 N g m1 (pI t) = some m' ∧ Off 46 47 m m' ∧ TD m' n w 0 δ := by
    intro t
    induction t with
    | zero =>
      intro m1 _ i1 i2 g hg
      obtain ⟨g', rfl⟩ : ∃ g', g = g' + 1 := ⟨g - 1, by omega⟩
      refine ⟨m1, ?_, i1, i2⟩
      show S_X4_measure_5 N (L_X4_measure_5 N g') m1 nM = _
      unfold S_X4_measure_5
      simp (disch := omega) only [zi_t, zi_f, bnd_t, zg_in, zx, nI_ltI, nI_leI, nI_eq, nI_add, pk_mul, pk_sub, mup_s, mup_c, mup_j, mrw_c, if_pos, if_neg, zm_1, zm_2, zm_3, zm_4, zm_5, zm_6, zm_7, zm_8, zm_9, zf_0, zf_1, zf_2, zf_3, zf_4, zf_5, zf_6, zf_7, zf_8, zf_9, zf_10, zf_14, zf_15, zf_16, zf_18, zf_19, zf_20, zf_24, zf_30, zf_31, zf_32, zf_33, zf_99, zf_100, zf_160, zf_200, zf_287, zf_288, zf_300, zf_1000, zf_1023, zf_1024, zf_1600, zf_3840, zf_25600, zf_36000, zf_1000000, zf_1000000000, zf_2000000000, zf_11560, za_1, za_2, za_4, za_5, za_6, za_7, za_8, za_9, za_10, za_11, za_12, za_14, za_15, za_22, za_23, za_25, za_26, za_27, za_28, za_29, za_30, za_31, za_32, za_33, za_34, za_35, za_41, za_42, za_43, za_44, za_45, za_46, za_47, za_48, za_49, za_61, za_62, za_63, za_64, za_65, za_70]
    | succ p ih =>
      intro m1 hp i1 i2 g hg
      obtain ⟨g', rfl⟩ : ∃ g', g = g' + 1 := ⟨g - 1, by omega⟩
      have hp : p ≤ w.length := by omega
      show ∃ m', S_X4_measure_5 N (L_X4_measure_5 N g') m1 (nI p) = _ ∧ _
      unfold S_X4_measure_5
      simp (disch := omega) only [zi_t, zi_f, bnd_t, zg_in, zx, nI_ltI, nI_leI, nI_eq, nI_add, pk_mul, pk_sub, mup_s, mup_c, mup_j, mrw_c, if_pos, if_neg, zm_1, zm_2, zm_3, zm_4, zm_5, zm_6, zm_7, zm_8, zm_9, zf_0, zf_1, zf_2, zf_3, zf_4, zf_5, zf_6, zf_7, zf_8, zf_9, zf_10, zf_14, zf_15, zf_16, zf_18, zf_19, zf_20, zf_24, zf_30, zf_31, zf_32, zf_33, zf_99, zf_100, zf_160, zf_200, zf_287, zf_288, zf_300, zf_1000, zf_1023, zf_1024, zf_1600, zf_3840, zf_25600, zf_36000, zf_1000000, zf_1000000000, zf_2000000000, zf_11560, za_1, za_2, za_4, za_5, za_6, za_7, za_8, za_9, za_10, za_11, za_12, za_14, za_15, za_22, za_23, za_25, za_26, za_27, za_28, za_29, za_30, za_31, za_32, za_33, za_34, za_35, za_41, za_42, za_43, za_44, za_45, za_46, za_47, za_48, za_49, za_61, za_62, za_63, za_64, za_65, za_70]
      refine loopF (fun k (m : Mem) s => L_X4_measure_11 N (L_X4_measure_5 N g') k m (nI p) (nI s)) n (fun k m' => Off 46 47 m m' ∧ (∀ q s, p < q → q ≤ w.length → s < n → m' 46 (32 * q + s) = nI (δ (32 * q + s))) ∧ ∀ s, s < k → m' 46 (32 * p + s) = nI (iniV f w δ p (32 * p + s))) (fun o => ∃ m', o = some m' ∧ Off 46 47 m m' ∧ TD m' n w 0 δ) ?_ ?_ N 0 m1 (Nat.zero_le _) ⟨i1, fun q s h1 h2 h3 => (i2 q s h1 h2 h3).1, fun s hs => absurd hs (Nat.not_lt_zero _)⟩ (by omega)
      · rintro k s m2 hs ⟨j1, j2, j3⟩
        have h2 : SC m2 a way n (eB f n) L w := h.cg ha (fun k hk => j1 k (by omega)) (by rw [j1 40 (by omega)]) (by rw [j1 40 (by omega)]) (by rw [j1 40 (by omega)])
        have e402 := h2.2.1
        have e401 := h2.2.2.1
        have en := h2.1.1
        have ee := h2.1.2.1
        have ehold := holds_t (x := eB f n) (s := s) (by omega)
        rw [tb_eBin hn hs] at ehold
        have hiv : iniV f w δ p (32 * p + s) = if p = w.length ∧ f s = true then 0 else 1000000000 := by
          unfold iniV
          rw [if_pos (by omega), show (32 * p + s) % 32 = s by omega]
        have hup : ∀ v, v = nI (iniV f w δ p (32 * p + s)) → Off 46 47 m (mup m2 46 (32 * p + s) v) ∧ (∀ q t, p < q → q ≤ w.length → t < n → mup m2 46 (32 * p + s) v 46 (32 * q + t) = nI (δ (32 * q + t))) ∧ ∀ t, t < s + 1 → mup m2 46 (32 * p + s) v 46 (32 * p + t) = nI (iniV f w δ p (32 * p + t)) := by
          intro v hv
          refine ⟨j1.up (by omega) (by omega), fun q t h1 h2 h3 => ?_, fun t ht => ?_⟩
          · rw [mup_j (by omega)]; exact j2 q t h1 h2 h3
          · rw [mup_if]
            by_cases e : t = s
            · rw [if_pos (by rw [e]), e, hv]
            · rw [if_neg (by omega)]; exact j3 t (by omega)
        left
        show ∃ s', _ ∧ S_X4_measure_11 N (L_X4_measure_5 N g') (L_X4_measure_11 N (L_X4_measure_5 N g') k) m2 (nI p) (nI s) = _
        unfold S_X4_measure_11 B_X4_measure_48 B_X4_measure_49 B_X4_measure_69
        by_cases cp : p = w.length
        · cases hf : f s with
          | false =>
            rw [if_neg (by rw [hf]; simp)] at hiv
            rw [hf] at ehold
            refine ⟨_, hup (nI 1000000000) (by rw [hiv]), ?_⟩
            have e401' : m2 40 1 = nI p := by rw [e401, cp]
            simp (disch := omega) only [zi_t, zi_f, bnd_t, zg_in, zx, nI_ltI, nI_leI, nI_eq, nI_add, pk_mul, pk_sub, mup_s, mup_c, mup_j, mrw_c, if_pos, if_neg, zm_1, zm_2, zm_3, zm_4, zm_5, zm_6, zm_7, zm_8, zm_9, zf_0, zf_1, zf_2, zf_3, zf_4, zf_5, zf_6, zf_7, zf_8, zf_9, zf_10, zf_14, zf_15, zf_16, zf_18, zf_19, zf_20, zf_24, zf_30, zf_31, zf_32, zf_33, zf_99, zf_100, zf_160, zf_200, zf_287, zf_288, zf_300, zf_1000, zf_1023, zf_1024, zf_1600, zf_3840, zf_25600, zf_36000, zf_1000000, zf_1000000000, zf_2000000000, zf_11560, za_1, za_2, za_4, za_5, za_6, za_7, za_8, za_9, za_10, za_11, za_12, za_14, za_15, za_22, za_23, za_25, za_26, za_27, za_28, za_29, za_30, za_31, za_32, za_33, za_34, za_35, za_41, za_42, za_43, za_44, za_45, za_46, za_47, za_48, za_49, za_61, za_62, za_63, za_64, za_65, za_70, e402, gd_t hk, en, e401', ee, ehold, bI_f, cell_at]
          | true =>
            rw [if_pos ⟨cp, hf⟩] at hiv
            rw [hf] at ehold
            refine ⟨_, hup (nI 0) (by rw [hiv]), ?_⟩
            have e401' : m2 40 1 = nI p := by rw [e401, cp]
            simp (disch := omega) only [zi_t, zi_f, bnd_t, zg_in, zx, nI_ltI, nI_leI, nI_eq, nI_add, pk_mul, pk_sub, mup_s, mup_c, mup_j, mrw_c, if_pos, if_neg, zm_1, zm_2, zm_3, zm_4, zm_5, zm_6, zm_7, zm_8, zm_9, zf_0, zf_1, zf_2, zf_3, zf_4, zf_5, zf_6, zf_7, zf_8, zf_9, zf_10, zf_14, zf_15, zf_16, zf_18, zf_19, zf_20, zf_24, zf_30, zf_31, zf_32, zf_33, zf_99, zf_100, zf_160, zf_200, zf_287, zf_288, zf_300, zf_1000, zf_1023, zf_1024, zf_1600, zf_3840, zf_25600, zf_36000, zf_1000000, zf_1000000000, zf_2000000000, zf_11560, za_1, za_2, za_4, za_5, za_6, za_7, za_8, za_9, za_10, za_11, za_12, za_14, za_15, za_22, za_23, za_25, za_26, za_27, za_28, za_29, za_30, za_31, za_32, za_33, za_34, za_35, za_41, za_42, za_43, za_44, za_45, za_46, za_47, za_48, za_49, za_61, za_62, za_63, za_64, za_65, za_70, e402, gd_t hk, en, e401', ee, ehold, bI_t, cell_at]
        · rw [if_neg (fun h => cp h.1)] at hiv
          refine ⟨_, hup (nI 1000000000) (by rw [hiv]), ?_⟩
          simp (disch := omega) only [zi_t, zi_f, bnd_t, zg_in, zx, nI_ltI, nI_leI, nI_eq, nI_add, pk_mul, pk_sub, mup_s, mup_c, mup_j, mrw_c, if_pos, if_neg, zm_1, zm_2, zm_3, zm_4, zm_5, zm_6, zm_7, zm_8, zm_9, zf_0, zf_1, zf_2, zf_3, zf_4, zf_5, zf_6, zf_7, zf_8, zf_9, zf_10, zf_14, zf_15, zf_16, zf_18, zf_19, zf_20, zf_24, zf_30, zf_31, zf_32, zf_33, zf_99, zf_100, zf_160, zf_200, zf_287, zf_288, zf_300, zf_1000, zf_1023, zf_1024, zf_1600, zf_3840, zf_25600, zf_36000, zf_1000000, zf_1000000000, zf_2000000000, zf_11560, za_1, za_2, za_4, za_5, za_6, za_7, za_8, za_9, za_10, za_11, za_12, za_14, za_15, za_22, za_23, za_25, za_26, za_27, za_28, za_29, za_30, za_31, za_32, za_33, za_34, za_35, za_41, za_42, za_43, za_44, za_45, za_46, za_47, za_48, za_49, za_61, za_62, za_63, za_64, za_65, za_70, e402, gd_t hk, en, e401, cell_at]
      · rintro k m2 ⟨j1, j2, j3⟩
        have h2 : SC m2 a way n (eB f n) L w := h.cg ha (fun k hk => j1 k (by omega)) (by rw [j1 40 (by omega)]) (by rw [j1 40 (by omega)]) (by rw [j1 40 (by omega)])
        have e402 := h2.2.1
        have en := h2.1.1
        have hP : PI m2 n f w δ p (iniV f w δ p) := by
          refine ⟨fun q s h1 h2 h3 => ?_, fun q s h1 h2 h3 => ?_, fun s hs => ?_⟩
          · by_cases e : q = p
            · rw [e]
              refine ⟨j3 s h3, ?_⟩
              unfold iniV
              rw [if_pos (by omega)]
              split <;> omega
            · have hne : iniV f w δ p (32 * q + s) = δ (32 * q + s) := by unfold iniV; rw [if_neg (by omega)]
              rw [hne]
              exact ⟨j2 q s (by omega) h2 h3, hδle _⟩
          · unfold iniV; rw [if_neg (by omega)]
          · have hiv : iniV f w δ p (32 * p + s) = if p = w.length ∧ f s = true then 0 else 1000000000 := by
              unfold iniV
              rw [if_pos (by omega), show (32 * p + s) % 32 = s by omega]
            rw [hiv]
            by_cases c : p = w.length ∧ f s = true
            · rw [if_pos c]
              have := hδ.en (a := 32 * p + s) ⟨s, hs, c.2, by rw [c.1]⟩
              exact ⟨by omega, fun _ => rfl⟩
            · rw [if_neg c]
              refine ⟨hδle _, fun he => ?_⟩
              obtain ⟨s', h1, h2, h3⟩ := he
              exact absurd ⟨by omega, by rw [show s = s' by omega]; exact h2⟩ c
        obtain ⟨m3, V3, g1, g2, g3, g4, g5⟩ := cl_mReading (N := N) hN ha ha2 hk h2 hok hl hway hwl hwx hn hδ hp hP
        have h3 : SC m3 a way n (eB f n) L w := h2.cg ha (fun k hk => g2 k (by omega)) (by rw [g2 40 (by omega)]) (by rw [g2 40 (by omega)]) (by rw [g2 40 (by omega)])
        obtain ⟨m4, k1, k2, k3⟩ := cl_mStaying (N := N) hN ha ha2 hk h3 hok hl hway hwl hn hδ hp g3 g4 g5
        obtain ⟨m', r1, r2, r3⟩ := ih m4 (by omega) ((j1.tr g2).tr k2) k3 g' (by omega)
        refine ⟨m', ?_, r2, r3⟩
        show S_X4_measure_11 N (L_X4_measure_5 N g') (L_X4_measure_11 N (L_X4_measure_5 N g') k) m2 (nI p) (nI n) = _
        unfold S_X4_measure_11
        simp (disch := omega) only [zi_t, zi_f, bnd_t, zg_in, zx, nI_ltI, nI_leI, nI_eq, nI_add, pk_mul, pk_sub, mup_s, mup_c, mup_j, mrw_c, if_pos, if_neg, zm_1, zm_2, zm_3, zm_4, zm_5, zm_6, zm_7, zm_8, zm_9, zf_0, zf_1, zf_2, zf_3, zf_4, zf_5, zf_6, zf_7, zf_8, zf_9, zf_10, zf_14, zf_15, zf_16, zf_18, zf_19, zf_20, zf_24, zf_30, zf_31, zf_32, zf_33, zf_99, zf_100, zf_160, zf_200, zf_287, zf_288, zf_300, zf_1000, zf_1023, zf_1024, zf_1600, zf_3840, zf_25600, zf_36000, zf_1000000, zf_1000000000, zf_2000000000, zf_11560, za_1, za_2, za_4, za_5, za_6, za_7, za_8, za_9, za_10, za_11, za_12, za_14, za_15, za_22, za_23, za_25, za_26, za_27, za_28, za_29, za_30, za_31, za_32, za_33, za_34, za_35, za_41, za_42, za_43, za_44, za_45, za_46, za_47, za_48, za_49, za_61, za_62, za_63, za_64, za_65, za_70, e402, gd_t hk, en]
        rw [calv_t g1, calv_t k1]
        rw [pI_dec]
        exact r1
  unfold F_X4_measure
  have e401 := h.2.2.1
  simp (disch := omega) only [zi_t, zi_f, bnd_t, zg_in, zx, nI_ltI, nI_leI, nI_eq, nI_add, pk_mul, pk_sub, mup_s, mup_c, mup_j, mrw_c, if_pos, if_neg, zm_1, zm_2, zm_3, zm_4, zm_5, zm_6, zm_7, zm_8, zm_9, zf_0, zf_1, zf_2, zf_3, zf_4, zf_5, zf_6, zf_7, zf_8, zf_9, zf_10, zf_14, zf_15, zf_16, zf_18, zf_19, zf_20, zf_24, zf_30, zf_31, zf_32, zf_33, zf_99, zf_100, zf_160, zf_200, zf_287, zf_288, zf_300, zf_1000, zf_1023, zf_1024, zf_1600, zf_3840, zf_25600, zf_36000, zf_1000000, zf_1000000000, zf_2000000000, zf_11560, za_1, za_2, za_4, za_5, za_6, za_7, za_8, za_9, za_10, za_11, za_12, za_14, za_15, za_22, za_23, za_25, za_26, za_27, za_28, za_29, za_30, za_31, za_32, za_33, za_34, za_35, za_41, za_42, za_43, za_44, za_45, za_46, za_47, za_48, za_49, za_61, za_62, za_63, za_64, za_65, za_70, e401]
  rw [← pI_s]
  exact key (w.length + 1) m (Nat.le_refl _) Off.rf (fun q s h1 h2 h3 => by omega) N (by omega)
def SL (m : Mem) (a way n : Nat) (f : Nat → Bool) (L : ArL) (w : List Nat) (δ : Nat → Nat) : Prop := SC m a way n (eB f n) L w ∧ TD m n w 0 δ
theorem cl_begin {N a n way : Nat} {f : Nat → Bool} {L : ArL} {w : List Nat} {δ : Nat → Nat} {m : Mem} (hN : 40000 < N) (ha : 200 ≤ a) (ha2 : a < 300) (hk : (knd a == 3) = true) (hC : MC m a n (eB f n) L) (hok : DOK n L) (hl : L.length ≤ 160) (hway : way < 3) (hwl : w.length ≤ 8) (hwx : ∀ x, x ∈ w → x < 8) (hw : ∀ j x, w[j]? = some x → m 1 j = nI x) (hn : n ≤ 32) (hδ : IsD (eG way L w) (En n f w) δ) :
    ∃ m', F_X4_begin N m a (nI w.length) (nI way) = some m' ∧ SL m' a way n f L w δ ∧ m' 40 13 = nI 0 ∧ Off 40 47 m m' := by
  obtain ⟨m8, g1, g2, g3, g4⟩ := cl_begin0 (N := N) hN ha ha2 hk hC hok hl hway hw hwl
  obtain ⟨m9, k1, k2, k3⟩ := cl_measure (N := N) hN ha ha2 hk g2 hok hl hway hwl hwx hn hδ
  refine ⟨m9, ?_, ⟨g2.cg ha (fun k hk => k2 k (by omega)) (by rw [k2 40 (by omega)]) (by rw [k2 40 (by omega)]) (by rw [k2 40 (by omega)]), k3⟩, by rw [k2 40 (by omega)]; exact g3, fun k hk => by rw [k2 k (by omega), g4 k (by omega)]⟩
  rw [g1, calv_t k1]
theorem SL.at0 {m : Mem} {a way n : Nat} {f : Nat → Bool} {L : ArL} {w : List Nat} {δ : Nat → Nat} (h : SL m a way n f L w δ) (h1 : 1 ≤ n) : m 46 0 = nI (δ 0) ∧ δ 0 ≤ 1000000000 := h.2 0 0 (Nat.le_refl _) (Nat.zero_le _) (by omega)
theorem cl_least {N a n way : Nat} {f : Nat → Bool} {L : ArL} {w : List Nat} {δ : Nat → Nat} {m : Mem} (h : SL m a way n f L w δ) (h1 : 1 ≤ n) : F_X4_leastCost N m = some (if δ 0 < 1000000000 then nI (δ 0) else nM, m) := by
  obtain ⟨e, l⟩ := h.at0 h1
  unfold F_X4_leastCost B_X4_leastCost_21
  by_cases c : δ 0 < 1000000000
  · rw [if_pos c]
    simp (disch := omega) only [zi_t, zi_f, bnd_t, zg_in, zx, nI_ltI, nI_leI, nI_eq, nI_add, pk_mul, pk_sub, mup_s, mup_c, mup_j, mrw_c, if_pos, if_neg, zm_1, zm_2, zm_3, zm_4, zm_5, zm_6, zm_7, zm_8, zm_9, zf_0, zf_1, zf_2, zf_3, zf_4, zf_5, zf_6, zf_7, zf_8, zf_9, zf_10, zf_14, zf_15, zf_16, zf_18, zf_19, zf_20, zf_24, zf_30, zf_31, zf_32, zf_33, zf_99, zf_100, zf_160, zf_200, zf_287, zf_288, zf_300, zf_1000, zf_1023, zf_1024, zf_1600, zf_3840, zf_25600, zf_36000, zf_1000000, zf_1000000000, zf_2000000000, zf_11560, za_1, za_2, za_4, za_5, za_6, za_7, za_8, za_9, za_10, za_11, za_12, za_14, za_15, za_22, za_23, za_25, za_26, za_27, za_28, za_29, za_30, za_31, za_32, za_33, za_34, za_35, za_41, za_42, za_43, za_44, za_45, za_46, za_47, za_48, za_49, za_61, za_62, za_63, za_64, za_65, za_70, e]
  · rw [if_neg c]
    simp (disch := omega) only [zi_t, zi_f, bnd_t, zg_in, zx, nI_ltI, nI_leI, nI_eq, nI_add, pk_mul, pk_sub, mup_s, mup_c, mup_j, mrw_c, if_pos, if_neg, zm_1, zm_2, zm_3, zm_4, zm_5, zm_6, zm_7, zm_8, zm_9, zf_0, zf_1, zf_2, zf_3, zf_4, zf_5, zf_6, zf_7, zf_8, zf_9, zf_10, zf_14, zf_15, zf_16, zf_18, zf_19, zf_20, zf_24, zf_30, zf_31, zf_32, zf_33, zf_99, zf_100, zf_160, zf_200, zf_287, zf_288, zf_300, zf_1000, zf_1023, zf_1024, zf_1600, zf_3840, zf_25600, zf_36000, zf_1000000, zf_1000000000, zf_2000000000, zf_11560, za_1, za_2, za_4, za_5, za_6, za_7, za_8, za_9, za_10, za_11, za_12, za_14, za_15, za_22, za_23, za_25, za_26, za_27, za_28, za_29, za_30, za_31, za_32, za_33, za_34, za_35, za_41, za_42, za_43, za_44, za_45, za_46, za_47, za_48, za_49, za_61, za_62, za_63, za_64, za_65, za_70, e]
