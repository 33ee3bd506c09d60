def Sy (way : Nat) (L : ArL) (w : List Nat) (δ : Nat → Nat) (ch : Bool) (x a b : Nat) : Prop := ∃ c, Eg way L w a c b x ∧ Wa δ ch a c b
def O47 (k : Nat) (m m' : Mem) : Prop := (∀ c, c ≠ 47 → m' c = m c) ∧ ∀ j, j ≠ k → m' 47 j = m 47 j
theorem O47.rf {k : Nat} {m : Mem} : O47 k m m := ⟨fun _ _ => rfl, fun _ _ => rfl⟩
theorem O47.tr {k : Nat} {m m' m'' : Mem} (h : O47 k m m') (h2 : O47 k m' m'') : O47 k m m'' := ⟨fun c hc => by rw [h2.1 c hc, h.1 c hc], fun j hj => by rw [h2.2 j hj, h.2 j hj]⟩
theorem O47.up {k : Nat} {m m' : Mem} {x : Int32} (h : O47 k m m') : O47 k m (mup m' 47 k x) := ⟨fun c hc => by rw [mup_r hc, h.1 c hc], fun j hj => by rw [mup_j hj, h.2 j hj]⟩
theorem O47.off {k : Nat} {m m' : Mem} (h : O47 k m m') : Off 47 50 m m' := fun c hc => h.1 c (by omega)
theorem tb_set {x : Int32} {t s : Nat} (ht : t < 32) (hs : s < 32) : tb (x ||| q_shl (nI 1) (nI t)) s = (tb x s || decide (s = t)) := by
  rw [tb_or, tb_shl t ht s hs]
def GR (m m' : Mem) (k : Nat) : Prop := ∀ s, tb (m 47 k) s = true → tb (m' 47 k) s = true
def SD (R : Nat → Nat → Prop) (m m' : Mem) (k p : Nat) : Prop := ∀ P : Nat → Prop, (∀ s, s < 32 → tb (m 47 k) s = true → P (32 * p + s)) → (∀ a b, P a → R a b → P b) → ∀ s, s < 32 → tb (m' 47 k) s = true → P (32 * p + s)
theorem SD.tr {R : Nat → Nat → Prop} {m m' m'' : Mem} {k p : Nat} (h : SD R m m' k p) (h2 : SD R m' m'' k p) : SD R m m'' k p := fun P h0 hs => h2 P (h P h0 hs) hs
def ClS (way : Nat) (L : ArL) (δ : Nat → Nat) (ch : Bool) (m : Mem) (k p K : Nat) : Prop := ∀ j q, j < K → L[j]? = some q → syW way q = 8 → tb (m 47 k) (fr q.1) = true → wyB δ ch (32 * p + fr q.1) (cSt way q) (32 * p + too q.1) = true → tb (m 47 k) (too q.1) = true
theorem ss_pass {N a way n lv p r : Nat} {f : Nat → Bool} {L : ArL} {w : List Nat} {δ : Nat → Nat} {ch : Bool} {m : Mem} {rec : Mem → Int32 → Int32 → Int32 → Int32 → Option Mem} (hN : 40000 < N) (ha : 200 ≤ a) (ha2 : a < 300) (hk : (knd a == 3) = true) (h : SF m a way n f L w δ ch) (hok : DOK n L) (hl : L.length ≤ 160) (hn : n ≤ 32) (hway : way < 3) (hwl : w.length ≤ 8) (hp : p ≤ w.length) (hlv : lv < 288) (hr : r < 100) :
    ∃ m' fl, L_X4_spreadStaying_26 N rec N m (nI (9 * lv + p)) (nI p) (nI 0) (nI r) (nI 0) = rec m' (nI (9 * lv + p)) (nI p) (bI fl) (nI (r + 1)) ∧ O47 (9 * lv + p) m m' ∧ GR m m' (9 * lv + p) ∧ SD (Sy way L w δ ch 8) m m' (9 * lv + p) p ∧ (fl = false → m' = m ∧ ClS way L δ ch m (9 * lv + p) p L.length) ∧ (fl = true → ∃ s, s < n ∧ tb (m 47 (9 * lv + p)) s = false ∧ tb (m' 47 (9 * lv + p)) s = true) := by
  refine loopF (σ := Mem × Bool) (fun g x j => L_X4_spreadStaying_26 N rec g x.1 (nI (9 * lv + p)) (nI p) (bI x.2) (nI r) (nI j)) L.length (fun j x => O47 (9 * lv + p) m x.1 ∧ GR m x.1 (9 * lv + p) ∧ SD (Sy way L w δ ch 8) m x.1 (9 * lv + p) p ∧ (x.2 = false → x.1 = m ∧ ClS way L δ ch m (9 * lv + p) p j) ∧ (x.2 = true → ∃ s, s < n ∧ tb (m 47 (9 * lv + p)) s = false ∧ tb (x.1 47 (9 * lv + p)) s = true)) (fun o => ∃ m' fl, o = rec m' (nI (9 * lv + p)) (nI p) (bI fl) (nI (r + 1)) ∧ O47 (9 * lv + p) m m' ∧ GR m m' (9 * lv + p) ∧ SD (Sy way L w δ ch 8) m m' (9 * lv + p) p ∧ (fl = false → m' = m ∧ ClS way L δ ch m (9 * lv + p) p L.length) ∧ (fl = true → ∃ s, s < n ∧ tb (m 47 (9 * lv + p)) s = false ∧ tb (m' 47 (9 * lv + p)) s = true)) ?_ ?_ N 0 (m, false) (Nat.zero_le _) ⟨O47.rf, fun _ h => h, fun P h0 _ => h0, fun _ => ⟨rfl, fun j q hj => absurd hj (Nat.not_lt_zero _)⟩, fun h => by cases h⟩ (by omega)
  · rintro g j ⟨m1, fl⟩ hj ⟨i1, i2, i3, i4, i5⟩
    have i1 : O47 (9 * lv + p) m m1 := i1
    have i2 : GR m m1 (9 * lv + p) := i2
    have i3 : SD (Sy way L w δ ch 8) m m1 (9 * lv + p) p := i3
    have i4 : fl = false → m1 = m ∧ ClS way L δ ch m (9 * lv + p) p j := i4
    have i5 : fl = true → ∃ s, s < n ∧ tb (m 47 (9 * lv + p)) s = false ∧ tb (m1 47 (9 * lv + p)) s = true := i5
    have h1 := h.off ha i1.off
    obtain ⟨q, hq⟩ : ∃ q, L[j]? = some q := ⟨_, List.getElem?_eq_getElem hj⟩
    have hqL := List.mem_of_getElem? hq
    have hqm := hok q hqL
    have hf1 := hqm.2.1
    have ht1 := hqm.2.2.1
    have hsy := syW_le (way := way) hqm
    obtain ⟨e42, e43, e44, e45⟩ := h1.1.1.2.2.2.2.2 j q hq
    have e402 := h1.1.1.2.1
    have eL := h1.1.1.1.2.2.1
    have hws := wstay (N := N) ha ha2 hk h1 hok hl hn hway hwl hp hlv hq
    have hh := holds_t (x := m1 47 (9 * lv + p)) (s := too q.1) (by omega)
    have hstay : ∀ (P : syW way q = 8 → tb (m1 47 (9 * lv + p)) (fr q.1) = true → wyB δ ch (32 * p + fr q.1) (cSt way q) (32 * p + too q.1) = true → tb (m1 47 (9 * lv + p)) (too q.1) = true), O47 (9 * lv + p) m m1 ∧ GR m m1 (9 * lv + p) ∧ SD (Sy way L w δ ch 8) m m1 (9 * lv + p) p ∧ (fl = false → m1 = m ∧ ClS way L δ ch m (9 * lv + p) p (j + 1)) ∧ (fl = true → ∃ s, s < n ∧ tb (m 47 (9 * lv + p)) s = false ∧ tb (m1 47 (9 * lv + p)) s = true) := by
      intro P
      refine ⟨i1, i2, i3, fun hfl => ?_, i5⟩
      obtain ⟨e1, e2⟩ := i4 hfl
      refine ⟨e1, fun j' q' hj' hq' hs hb hw => ?_⟩
      by_cases e : j' = j
      · rw [e, hq] at hq'
        have e3 := Option.some.inj hq'
        subst e3
        rw [e1] at P
        exact P hs hb hw
      · exact e2 j' q' (by omega) hq' hs hb hw
    left
    show ∃ s' : Mem × Bool, _ ∧ S_X4_spreadStaying_26 N rec (L_X4_spreadStaying_26 N rec g) m1 (nI (9 * lv + p)) (nI p) (bI fl) (nI r) (nI j) = L_X4_spreadStaying_26 N rec g s'.1 (nI (9 * lv + p)) (nI p) (bI s'.2) (nI r) (nI (j + 1))
    by_cases c8 : syW way q = 8
    · cases ht : tb (m1 47 (9 * lv + p)) (too q.1) with
      | true =>
        rw [ht] at hh
        refine ⟨(m1, fl), hstay (fun _ _ _ => ht), ?_⟩
        rw [c8] at e44
        unfold S_X4_spreadStaying_26 B_X4_spreadStaying_103
        simp (disch := omega) only [zi_t, zi_f, bnd_t, zg_in, zx, nI_ltI, nI_leI, nI_eq, nI_add, pk_mul, pk_sub, mup_s, mup_c, mup_j, mrw_c, if_pos, if_neg, zm_1, zm_2, zm_3, zm_4, zm_5, zm_6, zm_7, zm_8, zm_9, zf_0, zf_1, zf_2, zf_3, zf_4, zf_5, zf_6, zf_7, zf_8, zf_9, zf_10, zf_14, zf_15, zf_16, zf_18, zf_19, zf_20, zf_24, zf_30, zf_31, zf_32, zf_33, zf_99, zf_100, zf_160, zf_200, zf_287, zf_288, zf_300, zf_1000, zf_1023, zf_1024, zf_1600, zf_3840, zf_25600, zf_36000, zf_1000000, zf_1000000000, zf_2000000000, zf_11560, za_1, za_2, za_4, za_5, za_6, za_7, za_8, za_9, za_10, za_11, za_12, za_14, za_15, za_22, za_23, za_25, za_26, za_27, za_28, za_29, za_30, za_31, za_32, za_33, za_34, za_35, za_41, za_42, za_43, za_44, za_45, za_46, za_47, za_48, za_49, za_61, za_62, za_63, za_64, za_65, za_70, e402, gd_t hk, eL, e44, e45, hh, bI_t]
      | false =>
        rw [ht] at hh
        rw [c8] at e44
        cases hb : (tb (m1 47 (9 * lv + p)) (fr q.1) && wyB δ ch (32 * p + fr q.1) (cSt way q) (32 * p + too q.1)) with
        | false =>
          rw [hb] at hws
          refine ⟨(m1, fl), hstay (fun _ h1 h2 => by rw [h1, h2] at hb; cases hb), ?_⟩
          unfold S_X4_spreadStaying_26 B_X4_spreadStaying_103
          simp (disch := omega) only [zi_t, zi_f, bnd_t, zg_in, zx, nI_ltI, nI_leI, nI_eq, nI_add, pk_mul, pk_sub, mup_s, mup_c, mup_j, mrw_c, if_pos, if_neg, zm_1, zm_2, zm_3, zm_4, zm_5, zm_6, zm_7, zm_8, zm_9, zf_0, zf_1, zf_2, zf_3, zf_4, zf_5, zf_6, zf_7, zf_8, zf_9, zf_10, zf_14, zf_15, zf_16, zf_18, zf_19, zf_20, zf_24, zf_30, zf_31, zf_32, zf_33, zf_99, zf_100, zf_160, zf_200, zf_287, zf_288, zf_300, zf_1000, zf_1023, zf_1024, zf_1600, zf_3840, zf_25600, zf_36000, zf_1000000, zf_1000000000, zf_2000000000, zf_11560, za_1, za_2, za_4, za_5, za_6, za_7, za_8, za_9, za_10, za_11, za_12, za_14, za_15, za_22, za_23, za_25, za_26, za_27, za_28, za_29, za_30, za_31, za_32, za_33, za_34, za_35, za_41, za_42, za_43, za_44, za_45, za_46, za_47, za_48, za_49, za_61, za_62, za_63, za_64, za_65, za_70, e402, gd_t hk, eL, e44, e45, hh, bI_f]
          rw [cal_t hws]
          simp (disch := omega) only [zi_t, zi_f, bnd_t, zg_in, zx, nI_ltI, nI_leI, nI_eq, nI_add, pk_mul, pk_sub, mup_s, mup_c, mup_j, mrw_c, if_pos, if_neg, zm_1, zm_2, zm_3, zm_4, zm_5, zm_6, zm_7, zm_8, zm_9, zf_0, zf_1, zf_2, zf_3, zf_4, zf_5, zf_6, zf_7, zf_8, zf_9, zf_10, zf_14, zf_15, zf_16, zf_18, zf_19, zf_20, zf_24, zf_30, zf_31, zf_32, zf_33, zf_99, zf_100, zf_160, zf_200, zf_287, zf_288, zf_300, zf_1000, zf_1023, zf_1024, zf_1600, zf_3840, zf_25600, zf_36000, zf_1000000, zf_1000000000, zf_2000000000, zf_11560, za_1, za_2, za_4, za_5, za_6, za_7, za_8, za_9, za_10, za_11, za_12, za_14, za_15, za_22, za_23, za_25, za_26, za_27, za_28, za_29, za_30, za_31, za_32, za_33, za_34, za_35, za_41, za_42, za_43, za_44, za_45, za_46, za_47, za_48, za_49, za_61, za_62, za_63, za_64, za_65, za_70, bI_f]
        | true =>
          rw [hb] at hws
          rw [Bool.and_eq_true] at hb
          refine ⟨(mup m1 47 (9 * lv + p) (m1 47 (9 * lv + p) ||| q_shl (nI 1) (nI (too q.1))), true), ⟨i1.up, fun s hs => ?_, fun P h0 hcl s hs hts => ?_, fun h => (by cases h), fun _ => ⟨too q.1, ht1, ?_, ?_⟩⟩, ?_⟩
          · show tb (mup m1 47 (9 * lv + p) _ 47 (9 * lv + p)) s = true
            rw [mup_s, tb_or, i2 s hs, Bool.true_or]
          · have hts : tb (mup m1 47 (9 * lv + p) (m1 47 (9 * lv + p) ||| q_shl (nI 1) (nI (too q.1))) 47 (9 * lv + p)) s = true := hts
            rw [mup_s, tb_set (by omega) hs, Bool.or_eq_true] at hts
            rcases hts with hts | hts
            · exact i3 P h0 hcl s hs hts
            · rw [of_decide_eq_true hts]
              obtain ⟨c, hc1, hc2⟩ := wyB_iff.mp hb.2
              refine hcl _ _ (i3 P h0 hcl (fr q.1) (by omega) hb.1) ⟨c, ⟨p, hp, Or.inl ⟨q, hqL, hc1, rfl, rfl, c8.symm⟩⟩, hc2⟩
          · cases hx : tb (m 47 (9 * lv + p)) (too q.1) with
            | false => rfl
            | true => rw [i2 _ hx] at ht; cases ht
          · show tb (mup m1 47 (9 * lv + p) _ 47 (9 * lv + p)) (too q.1) = true
            rw [mup_s, tb_set (by omega) (by omega), decide_eq_true rfl, Bool.or_true]
          · unfold S_X4_spreadStaying_26 B_X4_spreadStaying_103
            simp (disch := omega) only [zi_t, zi_f, bnd_t, zg_in, zx, nI_ltI, nI_leI, nI_eq, nI_add, pk_mul, pk_sub, mup_s, mup_c, mup_j, mrw_c, if_pos, if_neg, zm_1, zm_2, zm_3, zm_4, zm_5, zm_6, zm_7, zm_8, zm_9, zf_0, zf_1, zf_2, zf_3, zf_4, zf_5, zf_6, zf_7, zf_8, zf_9, zf_10, zf_14, zf_15, zf_16, zf_18, zf_19, zf_20, zf_24, zf_30, zf_31, zf_32, zf_33, zf_99, zf_100, zf_160, zf_200, zf_287, zf_288, zf_300, zf_1000, zf_1023, zf_1024, zf_1600, zf_3840, zf_25600, zf_36000, zf_1000000, zf_1000000000, zf_2000000000, zf_11560, za_1, za_2, za_4, za_5, za_6, za_7, za_8, za_9, za_10, za_11, za_12, za_14, za_15, za_22, za_23, za_25, za_26, za_27, za_28, za_29, za_30, za_31, za_32, za_33, za_34, za_35, za_41, za_42, za_43, za_44, za_45, za_46, za_47, za_48, za_49, za_61, za_62, za_63, za_64, za_65, za_70, e402, gd_t hk, eL, e44, e45, hh, bI_f]
            rw [cal_t hws]
            simp (disch := omega) only [zi_t, zi_f, bnd_t, zg_in, zx, nI_ltI, nI_leI, nI_eq, nI_add, pk_mul, pk_sub, mup_s, mup_c, mup_j, mrw_c, if_pos, if_neg, zm_1, zm_2, zm_3, zm_4, zm_5, zm_6, zm_7, zm_8, zm_9, zf_0, zf_1, zf_2, zf_3, zf_4, zf_5, zf_6, zf_7, zf_8, zf_9, zf_10, zf_14, zf_15, zf_16, zf_18, zf_19, zf_20, zf_24, zf_30, zf_31, zf_32, zf_33, zf_99, zf_100, zf_160, zf_200, zf_287, zf_288, zf_300, zf_1000, zf_1023, zf_1024, zf_1600, zf_3840, zf_25600, zf_36000, zf_1000000, zf_1000000000, zf_2000000000, zf_11560, za_1, za_2, za_4, za_5, za_6, za_7, za_8, za_9, za_10, za_11, za_12, za_14, za_15, za_22, za_23, za_25, za_26, za_27, za_28, za_29, za_30, za_31, za_32, za_33, za_34, za_35, za_41, za_42, za_43, za_44, za_45, za_46, za_47, za_48, za_49, za_61, za_62, za_63, za_64, za_65, za_70, bI_t, e45]
    · refine ⟨(m1, fl), hstay (fun h => absurd h c8), ?_⟩
      unfold S_X4_spreadStaying_26 B_X4_spreadStaying_103
      simp (disch := omega) only [zi_t, zi_f, bnd_t, zg_in, zx, nI_ltI, nI_leI, nI_eq, nI_add, pk_mul, pk_sub, mup_s, mup_c, mup_j, mrw_c, if_pos, if_neg, zm_1, zm_2, zm_3, zm_4, zm_5, zm_6, zm_7, zm_8, zm_9, zf_0, zf_1, zf_2, zf_3, zf_4, zf_5, zf_6, zf_7, zf_8, zf_9, zf_10, zf_14, zf_15, zf_16, zf_18, zf_19, zf_20, zf_24, zf_30, zf_31, zf_32, zf_33, zf_99, zf_100, zf_160, zf_200, zf_287, zf_288, zf_300, zf_1000, zf_1023, zf_1024, zf_1600, zf_3840, zf_25600, zf_36000, zf_1000000, zf_1000000000, zf_2000000000, zf_11560, za_1, za_2, za_4, za_5, za_6, za_7, za_8, za_9, za_10, za_11, za_12, za_14, za_15, za_22, za_23, za_25, za_26, za_27, za_28, za_29, za_30, za_31, za_32, za_33, za_34, za_35, za_41, za_42, za_43, za_44, za_45, za_46, za_47, za_48, za_49, za_61, za_62, za_63, za_64, za_65, za_70, e402, gd_t hk, eL, e44]
  · rintro g ⟨m1, fl⟩ ⟨i1, i2, i3, i4, i5⟩
    have i1 : O47 (9 * lv + p) m m1 := i1
    have h1 := h.off ha i1.off
    have e402 := h1.1.1.2.1
    have eL := h1.1.1.1.2.2.1
    refine ⟨m1, fl, ?_, i1, i2, i3, i4, i5⟩
    show S_X4_spreadStaying_26 N rec (L_X4_spreadStaying_26 N rec g) m1 (nI (9 * lv + p)) (nI p) (bI fl) (nI r) (nI L.length) = _
    unfold S_X4_spreadStaying_26
    simp (disch := omega) only [zi_t, zi_f, bnd_t, zg_in, zx, nI_ltI, nI_leI, nI_eq, nI_add, pk_mul, pk_sub, mup_s, mup_c, mup_j, mrw_c, if_pos, if_neg, zm_1, zm_2, zm_3, zm_4, zm_5, zm_6, zm_7, zm_8, zm_9, zf_0, zf_1, zf_2, zf_3, zf_4, zf_5, zf_6, zf_7, zf_8, zf_9, zf_10, zf_14, zf_15, zf_16, zf_18, zf_19, zf_20, zf_24, zf_30, zf_31, zf_32, zf_33, zf_99, zf_100, zf_160, zf_200, zf_287, zf_288, zf_300, zf_1000, zf_1023, zf_1024, zf_1600, zf_3840, zf_25600, zf_36000, zf_1000000, zf_1000000000, zf_2000000000, zf_11560, za_1, za_2, za_4, za_5, za_6, za_7, za_8, za_9, za_10, za_11, za_12, za_14, za_15, za_22, za_23, za_25, za_26, za_27, za_28, za_29, za_30, za_31, za_32, za_33, za_34, za_35, za_41, za_42, za_43, za_44, za_45, za_46, za_47, za_48, za_49, za_61, za_62, za_63, za_64, za_65, za_70, e402, gd_t hk, eL]
theorem cl_spStay {N a way n lv p : Nat} {f : Nat → Bool} {L : ArL} {w : List Nat} {δ : Nat → Nat} {ch : Bool} {m : Mem} (hN : 40000 < N) (ha : 200 ≤ a) (ha2 : a < 300) (hk : (knd a == 3) = true) (h : SF m a way n f L w δ ch) (hok : DOK n L) (hl : L.length ≤ 160) (hn : n ≤ 32) (hway : way < 3) (hwl : w.length ≤ 8) (hp : p ≤ w.length) (hlv : lv < 288) (hne : ∃ s, s < n ∧ tb (m 47 (9 * lv + p)) s = true) :
    ∃ m', F_X4_spreadStaying N m (nI (9 * lv + p)) (nI p) = some m' ∧ O47 (9 * lv + p) m m' ∧ GR m m' (9 * lv + p) ∧ SD (Sy way L w δ ch 8) m m' (9 * lv + p) p ∧ ClS way L δ ch m' (9 * lv + p) p L.length := by
  unfold F_X4_spreadStaying
  have hone : 1 ≤ cnt (fun s => tb (m 47 (9 * lv + p)) s) n := by
    obtain ⟨s, hs, hb⟩ := hne
    have := cnt_at (b := fun s => tb (m 47 (9 * lv + p)) s) hb hs
    omega
  refine loopF (σ := Mem × Bool) (fun g x r => L_X4_spreadStaying_5 N g x.1 (nI (9 * lv + p)) (nI p) (bI x.2) (nI r)) (n + 1) (fun r x => O47 (9 * lv + p) m x.1 ∧ GR m x.1 (9 * lv + p) ∧ SD (Sy way L w δ ch 8) m x.1 (9 * lv + p) p ∧ ((x.2 = false ∧ ClS way L δ ch x.1 (9 * lv + p) p L.length) ∨ (x.2 = true ∧ r + 1 ≤ cnt (fun s => tb (x.1 47 (9 * lv + p)) s) n))) (fun o => ∃ m', o = some m' ∧ O47 (9 * lv + p) m m' ∧ GR m m' (9 * lv + p) ∧ SD (Sy way L w δ ch 8) m m' (9 * lv + p) p ∧ ClS way L δ ch m' (9 * lv + p) p L.length) ?_ ?_ N 0 (m, true) (by omega) ⟨O47.rf, fun _ h => h, fun P h0 _ => h0, Or.inr ⟨rfl, hone⟩⟩ (by omega)
  · rintro g r ⟨m1, fl⟩ hr ⟨i1, i2, i3, i4⟩
    have i1 : O47 (9 * lv + p) m m1 := i1
    have i2 : GR m m1 (9 * lv + p) := i2
    have i3 : SD (Sy way L w δ ch 8) m m1 (9 * lv + p) p := i3
    have h1 := h.off ha i1.off
    have e402 := h1.1.1.2.1
    have en := h1.1.1.1.1
    show (∃ s' : Mem × Bool, _ ∧ S_X4_spreadStaying_5 N (L_X4_spreadStaying_5 N g) m1 (nI (9 * lv + p)) (nI p) (bI fl) (nI r) = _) ∨ ∃ m', S_X4_spreadStaying_5 N (L_X4_spreadStaying_5 N g) m1 (nI (9 * lv + p)) (nI p) (bI fl) (nI r) = _ ∧ _
    unfold S_X4_spreadStaying_5 B_X4_spreadStaying_115
    rcases i4 with ⟨hfl, hc⟩ | ⟨hfl, hc⟩
    · have hfl : fl = false := hfl
      subst hfl
      right
      refine ⟨m1, ?_, i1, i2, i3, hc⟩
      simp (disch := omega) only [zi_t, zi_f, bnd_t, zg_in, zx, nI_ltI, nI_leI, nI_eq, nI_add, pk_mul, pk_sub, mup_s, mup_c, mup_j, mrw_c, if_pos, if_neg, zm_1, zm_2, zm_3, zm_4, zm_5, zm_6, zm_7, zm_8, zm_9, zf_0, zf_1, zf_2, zf_3, zf_4, zf_5, zf_6, zf_7, zf_8, zf_9, zf_10, zf_14, zf_15, zf_16, zf_18, zf_19, zf_20, zf_24, zf_30, zf_31, zf_32, zf_33, zf_99, zf_100, zf_160, zf_200, zf_287, zf_288, zf_300, zf_1000, zf_1023, zf_1024, zf_1600, zf_3840, zf_25600, zf_36000, zf_1000000, zf_1000000000, zf_2000000000, zf_11560, za_1, za_2, za_4, za_5, za_6, za_7, za_8, za_9, za_10, za_11, za_12, za_14, za_15, za_22, za_23, za_25, za_26, za_27, za_28, za_29, za_30, za_31, za_32, za_33, za_34, za_35, za_41, za_42, za_43, za_44, za_45, za_46, za_47, za_48, za_49, za_61, za_62, za_63, za_64, za_65, za_70, bI_f]
    · have hfl : fl = true := hfl
      subst hfl
      have hc : r + 1 ≤ cnt (fun s => tb (m1 47 (9 * lv + p)) s) n := hc
      have hcn := cnt_le (fun s => tb (m1 47 (9 * lv + p)) s) n
      left
      obtain ⟨m2, fl2, g1, g2, g3, g4, g5, g6⟩ := ss_pass (N := N) (rec := L_X4_spreadStaying_5 N g) (r := r) hN ha ha2 hk h1 hok hl hn hway hwl hp hlv (by omega)
      refine ⟨(m2, fl2), ⟨i1.tr g2, fun s hs => g3 s (i2 s hs), i3.tr g4, ?_⟩, ?_⟩
      · show (fl2 = false ∧ ClS way L δ ch m2 (9 * lv + p) p L.length) ∨ (fl2 = true ∧ r + 1 + 1 ≤ cnt (fun s => tb (m2 47 (9 * lv + p)) s) n)
        cases fl2 with
        | false =>
          obtain ⟨e1, e2⟩ := g5 rfl
          rw [e1]
          exact Or.inl ⟨rfl, e2⟩
        | true =>
          obtain ⟨s, hs, x1, x2⟩ := g6 rfl
          have := cnt_lt (a := fun s => tb (m1 47 (9 * lv + p)) s) (b := fun s => tb (m2 47 (9 * lv + p)) s) g3 (x := s) x2 x1 n hs
          exact Or.inr ⟨rfl, by omega⟩
      · simp (disch := omega) only [zi_t, zi_f, bnd_t, zg_in, zx, nI_ltI, nI_leI, nI_eq, nI_add, pk_mul, pk_sub, mup_s, mup_c, mup_j, mrw_c, if_pos, if_neg, zm_1, zm_2, zm_3, zm_4, zm_5, zm_6, zm_7, zm_8, zm_9, zf_0, zf_1, zf_2, zf_3, zf_4, zf_5, zf_6, zf_7, zf_8, zf_9, zf_10, zf_14, zf_15, zf_16, zf_18, zf_19, zf_20, zf_24, zf_30, zf_31, zf_32, zf_33, zf_99, zf_100, zf_160, zf_200, zf_287, zf_288, zf_300, zf_1000, zf_1023, zf_1024, zf_1600, zf_3840, zf_25600, zf_36000, zf_1000000, zf_1000000000, zf_2000000000, zf_11560, za_1, za_2, za_4, za_5, za_6, za_7, za_8, za_9, za_10, za_11, za_12, za_14, za_15, za_22, za_23, za_25, za_26, za_27, za_28, za_29, za_30, za_31, za_32, za_33, za_34, za_35, za_41, za_42, za_43, za_44, za_45, za_46, za_47, za_48, za_49, za_61, za_62, za_63, za_64, za_65, za_70, bI_t, e402, gd_t hk, en]
        exact g1
  · rintro g ⟨m1, fl⟩ ⟨i1, i2, i3, i4⟩
    have i1 : O47 (9 * lv + p) m m1 := i1
    rcases i4 with ⟨hfl, hc⟩ | ⟨hfl, hc⟩
    · have hfl : fl = false := hfl
      subst hfl
      refine ⟨m1, ?_, i1, i2, i3, hc⟩
      show S_X4_spreadStaying_5 N (L_X4_spreadStaying_5 N g) m1 (nI (9 * lv + p)) (nI p) (bI false) (nI (n + 1)) = _
      unfold S_X4_spreadStaying_5 B_X4_spreadStaying_115
      simp (disch := omega) only [zi_t, zi_f, bnd_t, zg_in, zx, nI_ltI, nI_leI, nI_eq, nI_add, pk_mul, pk_sub, mup_s, mup_c, mup_j, mrw_c, if_pos, if_neg, zm_1, zm_2, zm_3, zm_4, zm_5, zm_6, zm_7, zm_8, zm_9, zf_0, zf_1, zf_2, zf_3, zf_4, zf_5, zf_6, zf_7, zf_8, zf_9, zf_10, zf_14, zf_15, zf_16, zf_18, zf_19, zf_20, zf_24, zf_30, zf_31, zf_32, zf_33, zf_99, zf_100, zf_160, zf_200, zf_287, zf_288, zf_300, zf_1000, zf_1023, zf_1024, zf_1600, zf_3840, zf_25600, zf_36000, zf_1000000, zf_1000000000, zf_2000000000, zf_11560, za_1, za_2, za_4, za_5, za_6, za_7, za_8, za_9, za_10, za_11, za_12, za_14, za_15, za_22, za_23, za_25, za_26, za_27, za_28, za_29, za_30, za_31, za_32, za_33, za_34, za_35, za_41, za_42, za_43, za_44, za_45, za_46, za_47, za_48, za_49, za_61, za_62, za_63, za_64, za_65, za_70, bI_f]
    · have hc : n + 1 + 1 ≤ cnt (fun s => tb (m1 47 (9 * lv + p)) s) n := hc
      have hcn := cnt_le (fun s => tb (m1 47 (9 * lv + p)) s) n
      omega
