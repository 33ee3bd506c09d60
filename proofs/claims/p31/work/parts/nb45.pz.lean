def SE (R : Nat → Nat → Prop) (m m' : Mem) (k p : Nat) : Prop := ∀ P : Nat → Prop, (∀ s, s < 32 → tb (m 47 (k + 1)) s = true → P (32 * (p + 1) + s)) → (∀ s, s < 32 → tb (m 47 k) s = true → P (32 * p + s)) → (∀ a b, P a → R a b → P b) → ∀ s, s < 32 → tb (m' 47 (k + 1)) s = true → P (32 * (p + 1) + s)
def CRd (way : Nat) (L : ArL) (w : List Nat) (δ : Nat → Nat) (ch : Bool) (m m' : Mem) (k p K : Nat) : Prop := ∀ j q, j < K → L[j]? = some q → syW way q = 8 → tb (m 47 k) (fr q.1) = true → wyB δ ch (32 * p + fr q.1) (cRd way w p q) (32 * (p + 1) + too q.1) = true → tb (m' 47 (k + 1)) (too q.1) = true
def CSk (way : Nat) (w : List Nat) (δ : Nat → Nat) (ch : Bool) (m m' : Mem) (k p K : Nat) : Prop := ∀ s, s < K → tb (m 47 k) s = true → wyB δ ch (32 * p + s) (cSk way w p) (32 * (p + 1) + s) = true → tb (m' 47 (k + 1)) s = true
theorem wy_rd {δ : Nat → Nat} {ch : Bool} {a b way p : Nat} {w : List Nat} {q : Nat × Nat} (h : wyB δ ch a (cRd way w p q) b = true) : p < w.length := by
  obtain ⟨c, hc, _⟩ := wyB_iff.mp h
  exact cRd_lt hc
theorem wy_sk {δ : Nat → Nat} {ch : Bool} {a b way p : Nat} {w : List Nat} (h : wyB δ ch a (cSk way w p) b = true) : p < w.length := by
  obtain ⟨c, hc, _⟩ := wyB_iff.mp h
  exact (cSk_lt hc).1
theorem cl_spRead {N a way n lv p : Nat} {f : Nat → Bool} {L : ArL} {w : List Nat} {δ : Nat → Nat} {ch : Bool} {m : Mem} (hN : 40000 < N) (ha : 200 ≤ a) (ha2 : a < 300) (hk : (knd a == 3) = true) (h : SF m a way n f L w δ ch) (hok : DOK n L) (hl : L.length ≤ 160) (hn : n ≤ 32) (hway : way < 3) (hwl : w.length ≤ 8) (hwx : ∀ x, x ∈ w → x < 8) (hp : p ≤ w.length) (hlv : lv < 288) :
    ∃ m', F_X4_spreadReading N m (nI (9 * lv + p)) (nI p) = some m' ∧ O47 (9 * lv + p + 1) m m' ∧ GR m m' (9 * lv + p + 1) ∧ SE (Sy way L w δ ch 8) m m' (9 * lv + p) p ∧ CRd way L w δ ch m m' (9 * lv + p) p L.length ∧ CSk way w δ ch m m' (9 * lv + p) p n := by
  unfold F_X4_spreadReading
  refine loopF (fun g (m : Mem) j => L_X4_spreadReading_2 N g m (nI (9 * lv + p)) (nI p) (nI j)) L.length (fun j x => O47 (9 * lv + p + 1) m x ∧ GR m x (9 * lv + p + 1) ∧ SE (Sy way L w δ ch 8) m x (9 * lv + p) p ∧ CRd way L w δ ch m x (9 * lv + p) p j) (fun o => ∃ m', o = some m' ∧ O47 (9 * lv + p + 1) m m' ∧ GR m m' (9 * lv + p + 1) ∧ SE (Sy way L w δ ch 8) m m' (9 * lv + p) p ∧ CRd way L w δ ch m m' (9 * lv + p) p L.length ∧ CSk way w δ ch m m' (9 * lv + p) p n) ?_ ?_ N 0 m (Nat.zero_le _) ⟨O47.rf, fun _ h => h, fun P h0 _ _ => h0, fun j q hj => absurd hj (Nat.not_lt_zero _)⟩ (by omega)
  · rintro g j m1 hj ⟨i1, i2, i3, i4⟩
    have h1 := h.off ha i1.off
    obtain ⟨q, hq⟩ : ∃ q, L[j]? = some q := ⟨_, List.getElem?_eq_getElem hj⟩
    have hqL := List.mem_of_getElem? hq
    have hqm := hok q hqL
    have hf1 := hqm.2.1
    have ht1 := hqm.2.2.1
    have hsy := syW_le (way := way) hqm
    obtain ⟨e42, e43, e44, e45⟩ := h1.1.1.2.2.2.2.2 j q hq
    have e402 := h1.1.1.2.1
    have eL := h1.1.1.1.2.2.1
    have hws := wread (N := N) ha ha2 hk h1 hok hl hn hway hwl hwx hp hlv hq
    have ek : m1 47 (9 * lv + p) = m 47 (9 * lv + p) := i1.2 _ (by omega)
    have hstay : (syW way q = 8 → tb (m 47 (9 * lv + p)) (fr q.1) = true → wyB δ ch (32 * p + fr q.1) (cRd way w p q) (32 * (p + 1) + too q.1) = true → tb (m1 47 (9 * lv + p + 1)) (too q.1) = true) → O47 (9 * lv + p + 1) m m1 ∧ GR m m1 (9 * lv + p + 1) ∧ SE (Sy way L w δ ch 8) m m1 (9 * lv + p) p ∧ CRd way L w δ ch m m1 (9 * lv + p) p (j + 1) := by
      intro P
      refine ⟨i1, i2, i3, fun j' q' hj' hq' hs hb hw => ?_⟩
      by_cases e : j' = j
      · rw [e, hq] at hq'
        have e3 := Option.some.inj hq'
        subst e3
        exact P hs hb hw
      · exact i4 j' q' (by omega) hq' hs hb hw
    left
    show ∃ s', _ ∧ S_X4_spreadReading_2 N (L_X4_spreadReading_2 N g) m1 (nI (9 * lv + p)) (nI p) (nI j) = _
    unfold S_X4_spreadReading_2 B_X4_spreadReading_56
    by_cases c8 : syW way q = 8
    · rw [c8] at e44
      cases hb : (tb (m1 47 (9 * lv + p)) (fr q.1) && wyB δ ch (32 * p + fr q.1) (cRd way w p q) (32 * (p + 1) + too q.1)) with
      | false =>
        rw [hb] at hws
        refine ⟨m1, hstay (fun _ h1 h2 => by rw [ek, h1, h2] at hb; cases hb), ?_⟩
        simp (disch := omega) only [zi_t, zi_f, bnd_t, zg_in, zx, nI_ltI, nI_leI, nI_eq, nI_add, pk_mul, pk_sub, mup_s, mup_c, mup_j, mrw_c, if_pos, if_neg, zm_1, zm_2, zm_3, zm_4, zm_5, zm_6, zm_7, zm_8, zm_9, zf_0, zf_1, zf_2, zf_3, zf_4, zf_5, zf_6, zf_7, zf_8, zf_9, zf_10, zf_14, zf_15, zf_16, zf_18, zf_19, zf_20, zf_24, zf_30, zf_31, zf_32, zf_33, zf_99, zf_100, zf_160, zf_200, zf_287, zf_288, zf_300, zf_1000, zf_1023, zf_1024, zf_1600, zf_3840, zf_25600, zf_36000, zf_1000000, zf_1000000000, zf_2000000000, zf_11560, za_1, za_2, za_4, za_5, za_6, za_7, za_8, za_9, za_10, za_11, za_12, za_14, za_15, za_22, za_23, za_25, za_26, za_27, za_28, za_29, za_30, za_31, za_32, za_33, za_34, za_35, za_41, za_42, za_43, za_44, za_45, za_46, za_47, za_48, za_49, za_61, za_62, za_63, za_64, za_65, za_70, e402, gd_t hk, eL, e44]
        rw [cal_t hws]
        simp (disch := omega) only [zi_t, zi_f, bnd_t, zg_in, zx, nI_ltI, nI_leI, nI_eq, nI_add, pk_mul, pk_sub, mup_s, mup_c, mup_j, mrw_c, if_pos, if_neg, zm_1, zm_2, zm_3, zm_4, zm_5, zm_6, zm_7, zm_8, zm_9, zf_0, zf_1, zf_2, zf_3, zf_4, zf_5, zf_6, zf_7, zf_8, zf_9, zf_10, zf_14, zf_15, zf_16, zf_18, zf_19, zf_20, zf_24, zf_30, zf_31, zf_32, zf_33, zf_99, zf_100, zf_160, zf_200, zf_287, zf_288, zf_300, zf_1000, zf_1023, zf_1024, zf_1600, zf_3840, zf_25600, zf_36000, zf_1000000, zf_1000000000, zf_2000000000, zf_11560, za_1, za_2, za_4, za_5, za_6, za_7, za_8, za_9, za_10, za_11, za_12, za_14, za_15, za_22, za_23, za_25, za_26, za_27, za_28, za_29, za_30, za_31, za_32, za_33, za_34, za_35, za_41, za_42, za_43, za_44, za_45, za_46, za_47, za_48, za_49, za_61, za_62, za_63, za_64, za_65, za_70, bI_f]
      | true =>
        rw [hb] at hws
        rw [Bool.and_eq_true] at hb
        have hpl := wy_rd hb.2
        refine ⟨mup m1 47 (9 * lv + p + 1) (m1 47 (9 * lv + p + 1) ||| q_shl (nI 1) (nI (too q.1))), ⟨i1.up, fun s hs => ?_, fun P h0 h00 hcl s hs hts => ?_, fun j' q' hj' hq' hs hb' hw => ?_⟩, ?_⟩
        · rw [mup_s, tb_or, i2 s hs, Bool.true_or]
        · rw [mup_s, tb_set (by omega) hs, Bool.or_eq_true] at hts
          rcases hts with hts | hts
          · exact i3 P h0 h00 hcl s hs hts
          · rw [of_decide_eq_true hts]
            obtain ⟨c, hc1, hc2⟩ := wyB_iff.mp hb.2
            refine hcl _ _ (h00 (fr q.1) (by omega) (by rw [← ek]; exact hb.1)) ⟨c, ⟨p, hp, Or.inr (Or.inl ⟨q, hqL, hc1, rfl, rfl, c8.symm⟩)⟩, hc2⟩
        · rw [mup_s]
          have ht2 := (hok q' (List.mem_of_getElem? hq')).2.2.1
          rw [tb_set (by omega) (by omega)]
          by_cases e : j' = j
          · rw [e, hq] at hq'
            have e3 := Option.some.inj hq'
            subst e3
            rw [decide_eq_true rfl, Bool.or_true]
          · rw [i4 j' q' (by omega) hq' hs hb' hw, Bool.true_or]
        · simp (disch := omega) only [zi_t, zi_f, bnd_t, zg_in, zx, nI_ltI, nI_leI, nI_eq, nI_add, pk_mul, pk_sub, mup_s, mup_c, mup_j, mrw_c, if_pos, if_neg, zm_1, zm_2, zm_3, zm_4, zm_5, zm_6, zm_7, zm_8, zm_9, zf_0, zf_1, zf_2, zf_3, zf_4, zf_5, zf_6, zf_7, zf_8, zf_9, zf_10, zf_14, zf_15, zf_16, zf_18, zf_19, zf_20, zf_24, zf_30, zf_31, zf_32, zf_33, zf_99, zf_100, zf_160, zf_200, zf_287, zf_288, zf_300, zf_1000, zf_1023, zf_1024, zf_1600, zf_3840, zf_25600, zf_36000, zf_1000000, zf_1000000000, zf_2000000000, zf_11560, za_1, za_2, za_4, za_5, za_6, za_7, za_8, za_9, za_10, za_11, za_12, za_14, za_15, za_22, za_23, za_25, za_26, za_27, za_28, za_29, za_30, za_31, za_32, za_33, za_34, za_35, za_41, za_42, za_43, za_44, za_45, za_46, za_47, za_48, za_49, za_61, za_62, za_63, za_64, za_65, za_70, e402, gd_t hk, eL, e44]
          rw [cal_t hws]
          simp (disch := omega) only [zi_t, zi_f, bnd_t, zg_in, zx, nI_ltI, nI_leI, nI_eq, nI_add, pk_mul, pk_sub, mup_s, mup_c, mup_j, mrw_c, if_pos, if_neg, zm_1, zm_2, zm_3, zm_4, zm_5, zm_6, zm_7, zm_8, zm_9, zf_0, zf_1, zf_2, zf_3, zf_4, zf_5, zf_6, zf_7, zf_8, zf_9, zf_10, zf_14, zf_15, zf_16, zf_18, zf_19, zf_20, zf_24, zf_30, zf_31, zf_32, zf_33, zf_99, zf_100, zf_160, zf_200, zf_287, zf_288, zf_300, zf_1000, zf_1023, zf_1024, zf_1600, zf_3840, zf_25600, zf_36000, zf_1000000, zf_1000000000, zf_2000000000, zf_11560, za_1, za_2, za_4, za_5, za_6, za_7, za_8, za_9, za_10, za_11, za_12, za_14, za_15, za_22, za_23, za_25, za_26, za_27, za_28, za_29, za_30, za_31, za_32, za_33, za_34, za_35, za_41, za_42, za_43, za_44, za_45, za_46, za_47, za_48, za_49, za_61, za_62, za_63, za_64, za_65, za_70, bI_t, e45]
    · refine ⟨m1, hstay (fun h => absurd h c8), ?_⟩
      simp (disch := omega) only [zi_t, zi_f, bnd_t, zg_in, zx, nI_ltI, nI_leI, nI_eq, nI_add, pk_mul, pk_sub, mup_s, mup_c, mup_j, mrw_c, if_pos, if_neg, zm_1, zm_2, zm_3, zm_4, zm_5, zm_6, zm_7, zm_8, zm_9, zf_0, zf_1, zf_2, zf_3, zf_4, zf_5, zf_6, zf_7, zf_8, zf_9, zf_10, zf_14, zf_15, zf_16, zf_18, zf_19, zf_20, zf_24, zf_30, zf_31, zf_32, zf_33, zf_99, zf_100, zf_160, zf_200, zf_287, zf_288, zf_300, zf_1000, zf_1023, zf_1024, zf_1600, zf_3840, zf_25600, zf_36000, zf_1000000, zf_1000000000, zf_2000000000, zf_11560, za_1, za_2, za_4, za_5, za_6, za_7, za_8, za_9, za_10, za_11, za_12, za_14, za_15, za_22, za_23, za_25, za_26, za_27, za_28, za_29, za_30, za_31, za_32, za_33, za_34, za_35, za_41, za_42, za_43, za_44, za_45, za_46, za_47, za_48, za_49, za_61, za_62, za_63, za_64, za_65, za_70, e402, gd_t hk, eL, e44]
  · rintro g m1 ⟨i1, i2, i3, i4⟩
    have h1 := h.off ha i1.off
    have e402 := h1.1.1.2.1
    have eL := h1.1.1.1.2.2.1
    show ∃ m', S_X4_spreadReading_2 N (L_X4_spreadReading_2 N g) m1 (nI (9 * lv + p)) (nI p) (nI L.length) = _ ∧ _
    unfold S_X4_spreadReading_2
    simp (disch := omega) only [zi_t, zi_f, bnd_t, zg_in, zx, nI_ltI, nI_leI, nI_eq, nI_add, pk_mul, pk_sub, mup_s, mup_c, mup_j, mrw_c, if_pos, if_neg, zm_1, zm_2, zm_3, zm_4, zm_5, zm_6, zm_7, zm_8, zm_9, zf_0, zf_1, zf_2, zf_3, zf_4, zf_5, zf_6, zf_7, zf_8, zf_9, zf_10, zf_14, zf_15, zf_16, zf_18, zf_19, zf_20, zf_24, zf_30, zf_31, zf_32, zf_33, zf_99, zf_100, zf_160, zf_200, zf_287, zf_288, zf_300, zf_1000, zf_1023, zf_1024, zf_1600, zf_3840, zf_25600, zf_36000, zf_1000000, zf_1000000000, zf_2000000000, zf_11560, za_1, za_2, za_4, za_5, za_6, za_7, za_8, za_9, za_10, za_11, za_12, za_14, za_15, za_22, za_23, za_25, za_26, za_27, za_28, za_29, za_30, za_31, za_32, za_33, za_34, za_35, za_41, za_42, za_43, za_44, za_45, za_46, za_47, za_48, za_49, za_61, za_62, za_63, za_64, za_65, za_70, e402, gd_t hk, eL]
    refine loopF (fun g (m : Mem) s => L_X4_spreadReading_64 N g m (nI (9 * lv + p)) (nI p) (nI s)) n (fun s x => O47 (9 * lv + p + 1) m x ∧ GR m x (9 * lv + p + 1) ∧ SE (Sy way L w δ ch 8) m x (9 * lv + p) p ∧ CRd way L w δ ch m x (9 * lv + p) p L.length ∧ CSk way w δ ch m x (9 * lv + p) p s) (fun o => ∃ m', o = some m' ∧ O47 (9 * lv + p + 1) m m' ∧ GR m m' (9 * lv + p + 1) ∧ SE (Sy way L w δ ch 8) m m' (9 * lv + p) p ∧ CRd way L w δ ch m m' (9 * lv + p) p L.length ∧ CSk way w δ ch m m' (9 * lv + p) p n) ?_ ?_ N 0 m1 (Nat.zero_le _) ⟨i1, i2, i3, i4, fun s hs => absurd hs (Nat.not_lt_zero _)⟩ (by omega)
    · rintro g s m2 hs ⟨j1, j2, j3, j4, j5⟩
      have h2 := h.off ha j1.off
      have e402' := h2.1.1.2.1
      have en := h2.1.1.1.1
      have ek : m2 47 (9 * lv + p) = m 47 (9 * lv + p) := j1.2 _ (by omega)
      have hh := holds_t (x := m2 47 (9 * lv + p)) (s := s) (by omega)
      have hsk := cl_skip (N := N) h2.1.1 hway hwl hp
      obtain ⟨ea, la⟩ := h2.1.2 p s (Nat.zero_le _) hp hs
      have hw := cl_isWay (N := N) (va := 0) (vb := 0) (a := 32 * p + s) (b := 32 * (p + 1) + s) (o := cSk way w p) (x := nI (32 * (p + 1) + s)) h2.2 (by omega) ea la (fun c hc => by
        obtain ⟨x1, x2, x3⟩ := cSk_lt hc
        obtain ⟨eb, lb⟩ := h2.1.2 (p + 1) s (Nat.zero_le _) (by omega) hs
        exact ⟨rfl, by omega, eb, lb, by omega⟩)
      have hstay : (tb (m 47 (9 * lv + p)) s = true → wyB δ ch (32 * p + s) (cSk way w p) (32 * (p + 1) + s) = true → tb (m2 47 (9 * lv + p + 1)) s = true) → CSk way w δ ch m m2 (9 * lv + p) p (s + 1) := by
        intro P t ht hb hw2
        by_cases e : t = s
        · subst e; exact P hb hw2
        · exact j5 t (by omega) hb hw2
      left
      show ∃ s', _ ∧ S_X4_spreadReading_64 N (L_X4_spreadReading_64 N g) m2 (nI (9 * lv + p)) (nI p) (nI s) = _
      unfold S_X4_spreadReading_64 B_X4_spreadReading_126
      cases ht : tb (m2 47 (9 * lv + p)) s with
      | false =>
        rw [ht] at hh
        refine ⟨m2, ⟨j1, j2, j3, j4, hstay (fun h _ => by rw [← ek, ht] at h; cases h)⟩, ?_⟩
        simp (disch := omega) only [zi_t, zi_f, bnd_t, zg_in, zx, nI_ltI, nI_leI, nI_eq, nI_add, pk_mul, pk_sub, mup_s, mup_c, mup_j, mrw_c, if_pos, if_neg, zm_1, zm_2, zm_3, zm_4, zm_5, zm_6, zm_7, zm_8, zm_9, zf_0, zf_1, zf_2, zf_3, zf_4, zf_5, zf_6, zf_7, zf_8, zf_9, zf_10, zf_14, zf_15, zf_16, zf_18, zf_19, zf_20, zf_24, zf_30, zf_31, zf_32, zf_33, zf_99, zf_100, zf_160, zf_200, zf_287, zf_288, zf_300, zf_1000, zf_1023, zf_1024, zf_1600, zf_3840, zf_25600, zf_36000, zf_1000000, zf_1000000000, zf_2000000000, zf_11560, za_1, za_2, za_4, za_5, za_6, za_7, za_8, za_9, za_10, za_11, za_12, za_14, za_15, za_22, za_23, za_25, za_26, za_27, za_28, za_29, za_30, za_31, za_32, za_33, za_34, za_35, za_41, za_42, za_43, za_44, za_45, za_46, za_47, za_48, za_49, za_61, za_62, za_63, za_64, za_65, za_70, e402', gd_t hk, en, hh, bI_f]
      | true =>
        rw [ht] at hh
        cases hb : wyB δ ch (32 * p + s) (cSk way w p) (32 * (p + 1) + s) with
        | false =>
          rw [hb] at hw
          refine ⟨m2, ⟨j1, j2, j3, j4, hstay (fun _ h => by rw [hb] at h; cases h)⟩, ?_⟩
          simp (disch := omega) only [zi_t, zi_f, bnd_t, zg_in, zx, nI_ltI, nI_leI, nI_eq, nI_add, pk_mul, pk_sub, mup_s, mup_c, mup_j, mrw_c, if_pos, if_neg, zm_1, zm_2, zm_3, zm_4, zm_5, zm_6, zm_7, zm_8, zm_9, zf_0, zf_1, zf_2, zf_3, zf_4, zf_5, zf_6, zf_7, zf_8, zf_9, zf_10, zf_14, zf_15, zf_16, zf_18, zf_19, zf_20, zf_24, zf_30, zf_31, zf_32, zf_33, zf_99, zf_100, zf_160, zf_200, zf_287, zf_288, zf_300, zf_1000, zf_1023, zf_1024, zf_1600, zf_3840, zf_25600, zf_36000, zf_1000000, zf_1000000000, zf_2000000000, zf_11560, za_1, za_2, za_4, za_5, za_6, za_7, za_8, za_9, za_10, za_11, za_12, za_14, za_15, za_22, za_23, za_25, za_26, za_27, za_28, za_29, za_30, za_31, za_32, za_33, za_34, za_35, za_41, za_42, za_43, za_44, za_45, za_46, za_47, za_48, za_49, za_61, za_62, za_63, za_64, za_65, za_70, e402', gd_t hk, en, hh, bI_t]
          rw [cal_t hsk]
          simp (disch := omega) only [zi_t, zi_f, bnd_t, zg_in, zx, nI_ltI, nI_leI, nI_eq, nI_add, pk_mul, pk_sub, mup_s, mup_c, mup_j, mrw_c, if_pos, if_neg, zm_1, zm_2, zm_3, zm_4, zm_5, zm_6, zm_7, zm_8, zm_9, zf_0, zf_1, zf_2, zf_3, zf_4, zf_5, zf_6, zf_7, zf_8, zf_9, zf_10, zf_14, zf_15, zf_16, zf_18, zf_19, zf_20, zf_24, zf_30, zf_31, zf_32, zf_33, zf_99, zf_100, zf_160, zf_200, zf_287, zf_288, zf_300, zf_1000, zf_1023, zf_1024, zf_1600, zf_3840, zf_25600, zf_36000, zf_1000000, zf_1000000000, zf_2000000000, zf_11560, za_1, za_2, za_4, za_5, za_6, za_7, za_8, za_9, za_10, za_11, za_12, za_14, za_15, za_22, za_23, za_25, za_26, za_27, za_28, za_29, za_30, za_31, za_32, za_33, za_34, za_35, za_41, za_42, za_43, za_44, za_45, za_46, za_47, za_48, za_49, za_61, za_62, za_63, za_64, za_65, za_70, cell_at]
          rw [cal_t hw]
          simp (disch := omega) only [zi_t, zi_f, bnd_t, zg_in, zx, nI_ltI, nI_leI, nI_eq, nI_add, pk_mul, pk_sub, mup_s, mup_c, mup_j, mrw_c, if_pos, if_neg, zm_1, zm_2, zm_3, zm_4, zm_5, zm_6, zm_7, zm_8, zm_9, zf_0, zf_1, zf_2, zf_3, zf_4, zf_5, zf_6, zf_7, zf_8, zf_9, zf_10, zf_14, zf_15, zf_16, zf_18, zf_19, zf_20, zf_24, zf_30, zf_31, zf_32, zf_33, zf_99, zf_100, zf_160, zf_200, zf_287, zf_288, zf_300, zf_1000, zf_1023, zf_1024, zf_1600, zf_3840, zf_25600, zf_36000, zf_1000000, zf_1000000000, zf_2000000000, zf_11560, za_1, za_2, za_4, za_5, za_6, za_7, za_8, za_9, za_10, za_11, za_12, za_14, za_15, za_22, za_23, za_25, za_26, za_27, za_28, za_29, za_30, za_31, za_32, za_33, za_34, za_35, za_41, za_42, za_43, za_44, za_45, za_46, za_47, za_48, za_49, za_61, za_62, za_63, za_64, za_65, za_70, bI_f]
        | true =>
          rw [hb] at hw
          have hpl := wy_sk hb
          refine ⟨mup m2 47 (9 * lv + p + 1) (m2 47 (9 * lv + p + 1) ||| q_shl (nI 1) (nI s)), ⟨j1.up, fun t ht => ?_, fun P h0 h00 hcl t htt hts => ?_, fun j' q' hj' hq' hs' hb' hw' => ?_, fun t ht' hb' hw' => ?_⟩, ?_⟩
          · rw [mup_s, tb_or, j2 t ht, Bool.true_or]
          · rw [mup_s, tb_set (by omega) htt, Bool.or_eq_true] at hts
            rcases hts with hts | hts
            · exact j3 P h0 h00 hcl t htt hts
            · rw [of_decide_eq_true hts]
              obtain ⟨c, hc1, hc2⟩ := wyB_iff.mp hb
              exact hcl _ _ (h00 s (by omega) (by rw [← ek]; exact ht)) ⟨c, ⟨p, hp, Or.inr (Or.inr ⟨s, by omega, hc1, rfl, rfl, rfl⟩)⟩, hc2⟩
          · rw [mup_s, tb_or, j4 j' q' hj' hq' hs' hb' hw', Bool.true_or]
          · rw [mup_s, tb_set (by omega) (by omega)]
            by_cases e : t = s
            · rw [decide_eq_true e, Bool.or_true]
            · rw [j5 t (by omega) hb' hw', Bool.true_or]
          · simp (disch := omega) only [zi_t, zi_f, bnd_t, zg_in, zx, nI_ltI, nI_leI, nI_eq, nI_add, pk_mul, pk_sub, mup_s, mup_c, mup_j, mrw_c, if_pos, if_neg, zm_1, zm_2, zm_3, zm_4, zm_5, zm_6, zm_7, zm_8, zm_9, zf_0, zf_1, zf_2, zf_3, zf_4, zf_5, zf_6, zf_7, zf_8, zf_9, zf_10, zf_14, zf_15, zf_16, zf_18, zf_19, zf_20, zf_24, zf_30, zf_31, zf_32, zf_33, zf_99, zf_100, zf_160, zf_200, zf_287, zf_288, zf_300, zf_1000, zf_1023, zf_1024, zf_1600, zf_3840, zf_25600, zf_36000, zf_1000000, zf_1000000000, zf_2000000000, zf_11560, za_1, za_2, za_4, za_5, za_6, za_7, za_8, za_9, za_10, za_11, za_12, za_14, za_15, za_22, za_23, za_25, za_26, za_27, za_28, za_29, za_30, za_31, za_32, za_33, za_34, za_35, za_41, za_42, za_43, za_44, za_45, za_46, za_47, za_48, za_49, za_61, za_62, za_63, za_64, za_65, za_70, e402', gd_t hk, en, hh, bI_t]
            rw [cal_t hsk]
            simp (disch := omega) only [zi_t, zi_f, bnd_t, zg_in, zx, nI_ltI, nI_leI, nI_eq, nI_add, pk_mul, pk_sub, mup_s, mup_c, mup_j, mrw_c, if_pos, if_neg, zm_1, zm_2, zm_3, zm_4, zm_5, zm_6, zm_7, zm_8, zm_9, zf_0, zf_1, zf_2, zf_3, zf_4, zf_5, zf_6, zf_7, zf_8, zf_9, zf_10, zf_14, zf_15, zf_16, zf_18, zf_19, zf_20, zf_24, zf_30, zf_31, zf_32, zf_33, zf_99, zf_100, zf_160, zf_200, zf_287, zf_288, zf_300, zf_1000, zf_1023, zf_1024, zf_1600, zf_3840, zf_25600, zf_36000, zf_1000000, zf_1000000000, zf_2000000000, zf_11560, za_1, za_2, za_4, za_5, za_6, za_7, za_8, za_9, za_10, za_11, za_12, za_14, za_15, za_22, za_23, za_25, za_26, za_27, za_28, za_29, za_30, za_31, za_32, za_33, za_34, za_35, za_41, za_42, za_43, za_44, za_45, za_46, za_47, za_48, za_49, za_61, za_62, za_63, za_64, za_65, za_70, cell_at]
            rw [cal_t hw]
            simp (disch := omega) only [zi_t, zi_f, bnd_t, zg_in, zx, nI_ltI, nI_leI, nI_eq, nI_add, pk_mul, pk_sub, mup_s, mup_c, mup_j, mrw_c, if_pos, if_neg, zm_1, zm_2, zm_3, zm_4, zm_5, zm_6, zm_7, zm_8, zm_9, zf_0, zf_1, zf_2, zf_3, zf_4, zf_5, zf_6, zf_7, zf_8, zf_9, zf_10, zf_14, zf_15, zf_16, zf_18, zf_19, zf_20, zf_24, zf_30, zf_31, zf_32, zf_33, zf_99, zf_100, zf_160, zf_200, zf_287, zf_288, zf_300, zf_1000, zf_1023, zf_1024, zf_1600, zf_3840, zf_25600, zf_36000, zf_1000000, zf_1000000000, zf_2000000000, zf_11560, za_1, za_2, za_4, za_5, za_6, za_7, za_8, za_9, za_10, za_11, za_12, za_14, za_15, za_22, za_23, za_25, za_26, za_27, za_28, za_29, za_30, za_31, za_32, za_33, za_34, za_35, za_41, za_42, za_43, za_44, za_45, za_46, za_47, za_48, za_49, za_61, za_62, za_63, za_64, za_65, za_70, bI_t]
    · rintro g m2 ⟨j1, j2, j3, j4, j5⟩
      have h2 := h.off ha j1.off
      have e402' := h2.1.1.2.1
      have en := h2.1.1.1.1
      refine ⟨m2, ?_, j1, j2, j3, j4, j5⟩
      show S_X4_spreadReading_64 N (L_X4_spreadReading_64 N g) m2 (nI (9 * lv + p)) (nI p) (nI n) = _
      unfold S_X4_spreadReading_64
      simp (disch := omega) only [zi_t, zi_f, bnd_t, zg_in, zx, nI_ltI, nI_leI, nI_eq, nI_add, pk_mul, pk_sub, mup_s, mup_c, mup_j, mrw_c, if_pos, if_neg, zm_1, zm_2, zm_3, zm_4, zm_5, zm_6, zm_7, zm_8, zm_9, zf_0, zf_1, zf_2, zf_3, zf_4, zf_5, zf_6, zf_7, zf_8, zf_9, zf_10, zf_14, zf_15, zf_16, zf_18, zf_19, zf_20, zf_24, zf_30, zf_31, zf_32, zf_33, zf_99, zf_100, zf_160, zf_200, zf_287, zf_288, zf_300, zf_1000, zf_1023, zf_1024, zf_1600, zf_3840, zf_25600, zf_36000, zf_1000000, zf_1000000000, zf_2000000000, zf_11560, za_1, za_2, za_4, za_5, za_6, za_7, za_8, za_9, za_10, za_11, za_12, za_14, za_15, za_22, za_23, za_25, za_26, za_27, za_28, za_29, za_30, za_31, za_32, za_33, za_34, za_35, za_41, za_42, za_43, za_44, za_45, za_46, za_47, za_48, za_49, za_61, za_62, za_63, za_64, za_65, za_70, e402', gd_t hk, en]
