theorem fr_lt {p n : Nat} (h : fr p < n) : p / 262144 < n := h
theorem reA_ok {n : Nat} {Q : List Nat} {q : Nat × Nat} (hq : AOK n q) (hf : fr q.1 ∈ Q) (ht : too q.1 ∈ Q) (hl : Q.length ≤ 1024) : AOK Q.length (reA Q q) :=
  AOK.mk hl (ixo_lt hf) hq.2.2.2.1 hq.2.2.2.2.1 (ixo_lt ht) hq.2.2.2.2.2
theorem insL_ok {n : Nat} {A : ArL} (h : DOK n A) : DOK n (insL A []) := fun q hq => h q (insL_of hq)
theorem map_take {A : ArL} {f : Nat × Nat → Nat × Nat} {i : Nat} {q : Nat × Nat} (h : A[i]? = some q) : (A.map f).take (i + 1) = (A.map f).take i ++ [f q] := by
  rw [List.take_add_one, List.getElem?_map, h]
  rfl
theorem dr_writeArcs {N n a : Nat} {m : Mem} {U : ArL} {Q : List Nat} (hN : 30000 < N) (ha : 200 ≤ a) (hk : knd (a + 1) = 0) (hA : AR m 13 U) (hU : U.length ≤ 160) (hok : DOK n U) (hn : n ≤ 1024) (hQ : NQ m n Q) (hq : ∀ q, q ∈ U → fr q.1 ∈ Q ∧ too q.1 ∈ Q) (h0 : m (a + 1) 2 = nI 0) :
    ∃ m', F_X1_writeArcs N m a = some (nI 1, m') ∧ AR m' (a + 1) (insL (U.map (reA Q)) []) ∧ Off (a + 1) (a + 4) m m' := by
  unfold F_X1_writeArcs
  have hql := hQ.len
  have hlen : ∀ i, (insL ((U.map (reA Q)).take i) []).length ≤ 160 := by
    intro i
    have := (insL_len ((U.map (reA Q)).take i) []).2
    rw [List.length_take, List.length_map] at this
    have h0 : ([] : ArL).length = 0 := rfl
    omega
  have hokr : ∀ i, DOK Q.length (insL ((U.map (reA Q)).take i) []) := by
    intro i
    apply insL_ok
    intro x hx
    obtain ⟨q, hqU, rfl⟩ := List.mem_map.mp (List.mem_of_mem_take hx)
    exact reA_ok (hok q hqU) (hq q hqU).1 (hq q hqU).2 (by omega)
  refine loopF (fun f (m : Mem) i => L_X1_writeArcs_2 N f m a (nI i)) U.length (fun i m' => AR m' (a + 1) (insL ((U.map (reA Q)).take i) []) ∧ Off (a + 1) (a + 4) m m') (fun o => ∃ m', o = some (nI 1, m') ∧ AR m' (a + 1) (insL (U.map (reA Q)) []) ∧ Off (a + 1) (a + 4) m m') ?_ ?_ N 0 m (Nat.zero_le _) ⟨⟨by rw [h0]; rfl, fun j q hq => (by simp [insL] at hq)⟩, Off.rf⟩ (by omega)
  · rintro f i m1 hi ⟨h1, h3⟩
    obtain ⟨q, hqi⟩ : ∃ q, U[i]? = some q := ⟨_, List.getElem?_eq_getElem hi⟩
    have hqU := List.mem_of_getElem? hqi
    have hqm := hok q hqU
    have hq1 := hqm.1
    have hqc := hqm.2.2.2.2.2
    have hq2 : q.1 / 262144 < n := hqm.2.1
    have hq3 : q.1 % 1024 < n := hqm.2.2.1
    have hu : q.1 / 16384 % 16 ≤ 8 := hqm.2.2.2.1
    have hl : q.1 / 1024 % 16 ≤ 8 := hqm.2.2.2.2.1
    have hfQ : q.1 / 262144 ∈ Q := (hq q hqU).1
    have htQ : q.1 % 1024 ∈ Q := (hq q hqU).2
    have e13 := (h3.at (k := 13) (by omega) 2).trans hA.1
    have e14 : m1 14 i = nI q.1 := (h3.at (k := 14) (by omega) i).trans (hA.2 i q hqi).1
    have e15 : m1 15 i = nI q.2 := (h3.at (k := 15) (by omega) i).trans (hA.2 i q hqi).2
    have ef := (h3.at (k := 12) (by omega) (q.1 / 262144)).trans (hQ.2.2.2 _ hq2)
    have et := (h3.at (k := 12) (by omega) (q.1 % 1024)).trans (hQ.2.2.2 _ hq3)
    rw [if_pos hfQ] at ef
    rw [if_pos htQ] at et
    have i1 := ixo_lt hfQ
    have i2 := ixo_lt htQ
    have hre : reA Q q = (pkA (ixo Q (q.1 / 262144)) (q.1 / 16384 % 16) (q.1 / 1024 % 16) (ixo Q (q.1 % 1024)), q.2) := rfl
    have hro := reA_ok hqm (hq q hqU).1 (hq q hqU).2 (by omega)
    have hro1 := hro.1
    have hins : insL ((U.map (reA Q)).take (i + 1)) [] = insR (insL ((U.map (reA Q)).take i) []) (reA Q q).1 q.2 := by rw [map_take hqi, insL_app, insL_one]; rfl
    rcases pz_put (N := N) (a := a + 1) (m := m1) (p := (reA Q q).1) (k := q.2) (by omega) hk h1 (insL_srt _) (hokr i).sm (hlen i) (by omega) (by omega) with ⟨g0, m2, g1, g2, g3⟩ | ⟨g0, g1⟩
    · refine Or.inl ⟨m2, ⟨by rw [hins]; exact g2, h3.tr g3⟩, ?_⟩
      show S_X1_writeArcs_2 N (L_X1_writeArcs_2 N f) m1 a (nI i) = _
      unfold S_X1_writeArcs_2
      simp (disch := omega) only [zi_t, zi_f, bnd_t, zg_in, zx, nI_ltI, nI_leI, nI_eq, nI_add, pk_mul, pk_sub, mup_s, mup_c, mup_j, mrw_c, if_pos, if_neg, zm_1, zm_2, zm_3, zm_4, zm_5, zm_6, zm_7, zm_8, zm_9, zf_0, zf_1, zf_2, zf_3, zf_4, zf_5, zf_6, zf_7, zf_8, zf_9, zf_10, zf_14, zf_15, zf_16, zf_18, zf_19, zf_20, zf_24, zf_30, zf_31, zf_32, zf_33, zf_99, zf_100, zf_160, zf_200, zf_287, zf_288, zf_300, zf_1000, zf_1023, zf_1024, zf_1600, zf_3840, zf_25600, zf_36000, zf_1000000, zf_1000000000, zf_2000000000, zf_11560, za_1, za_2, za_4, za_5, za_6, za_7, za_8, za_9, za_10, za_11, za_12, za_14, za_15, za_22, za_23, za_25, za_26, za_27, za_28, za_29, za_30, za_31, za_32, za_33, za_34, za_35, za_41, za_42, za_43, za_44, za_45, za_46, za_47, za_48, za_49, za_61, za_62, za_63, za_64, za_65, za_70, e13, e14, e15, pk_from, pk_to, pk_upper, pk_lower, ef, et, pk_packed]
      rw [hre] at g1
      rw [cal_t g1]
      simp (disch := omega) only [zi_t, zi_f, bnd_t, zg_in, zx, nI_ltI, nI_leI, nI_eq, nI_add, pk_mul, pk_sub, mup_s, mup_c, mup_j, mrw_c, if_pos, if_neg, zm_1, zm_2, zm_3, zm_4, zm_5, zm_6, zm_7, zm_8, zm_9, zf_0, zf_1, zf_2, zf_3, zf_4, zf_5, zf_6, zf_7, zf_8, zf_9, zf_10, zf_14, zf_15, zf_16, zf_18, zf_19, zf_20, zf_24, zf_30, zf_31, zf_32, zf_33, zf_99, zf_100, zf_160, zf_200, zf_287, zf_288, zf_300, zf_1000, zf_1023, zf_1024, zf_1600, zf_3840, zf_25600, zf_36000, zf_1000000, zf_1000000000, zf_2000000000, zf_11560, za_1, za_2, za_4, za_5, za_6, za_7, za_8, za_9, za_10, za_11, za_12, za_14, za_15, za_22, za_23, za_25, za_26, za_27, za_28, za_29, za_30, za_31, za_32, za_33, za_34, za_35, za_41, za_42, za_43, za_44, za_45, za_46, za_47, za_48, za_49, za_61, za_62, za_63, za_64, za_65, za_70]
    · exfalso
      have := hlen (i + 1)
      rw [hins] at this
      omega
  · rintro f m1 ⟨h1, h3⟩
    rw [List.take_of_length_le (by rw [List.length_map]; exact Nat.le_refl _)] at h1
    have e13 := (h3.at (k := 13) (by omega) 2).trans hA.1
    refine ⟨m1, ?_, h1, h3⟩
    show S_X1_writeArcs_2 N (L_X1_writeArcs_2 N f) m1 a (nI U.length) = _
    unfold S_X1_writeArcs_2
    simp (disch := omega) only [zi_t, zi_f, bnd_t, zg_in, zx, nI_ltI, nI_leI, nI_eq, nI_add, pk_mul, pk_sub, mup_s, mup_c, mup_j, mrw_c, if_pos, if_neg, zm_1, zm_2, zm_3, zm_4, zm_5, zm_6, zm_7, zm_8, zm_9, zf_0, zf_1, zf_2, zf_3, zf_4, zf_5, zf_6, zf_7, zf_8, zf_9, zf_10, zf_14, zf_15, zf_16, zf_18, zf_19, zf_20, zf_24, zf_30, zf_31, zf_32, zf_33, zf_99, zf_100, zf_160, zf_200, zf_287, zf_288, zf_300, zf_1000, zf_1023, zf_1024, zf_1600, zf_3840, zf_25600, zf_36000, zf_1000000, zf_1000000000, zf_2000000000, zf_11560, za_1, za_2, za_4, za_5, za_6, za_7, za_8, za_9, za_10, za_11, za_12, za_14, za_15, za_22, za_23, za_25, za_26, za_27, za_28, za_29, za_30, za_31, za_32, za_33, za_34, za_35, za_41, za_42, za_43, za_44, za_45, za_46, za_47, za_48, za_49, za_61, za_62, za_63, za_64, za_65, za_70, e13]
def MC (m : Mem) (a n : Nat) (e : Int32) (L : ArL) : Prop := m a 1 = nI n ∧ m a 2 = e ∧ AR m (a + 1) L
def tooBig (D : ArL) (W : List Nat) : Prop := 32 < W.length ∨ 160 < (usA D W).length
abbrev outQ (D : ArL) (W : List Nat) (st : Nat) : List Nat := ordQ (usA D W) st
abbrev outE (E : Nat → Bool) (D : ArL) (W : List Nat) (st : Nat) : Int32 := eB (endQ E (outQ D W st)) (outQ D W st).length
abbrev outA (D : ArL) (W : List Nat) (st : Nat) : ArL := insL ((usA D W).map (reA (outQ D W st))) []
def FrT (a : Nat) (m m' : Mem) : Prop := ∀ c, (c < 7 ∨ 16 ≤ c) → (c < a ∨ a + 4 ≤ c) → m' c = m c
theorem usA_ok {n : Nat} {D : ArL} {W : List Nat} (h : DOK n D) : DOK n (usA D W) := fun q hq => h q (usA_of hq).1
theorem dr_trim {N n st a : Nat} {m : Mem} {E : Nat → Bool} {D : ArL} (hN : 30000 < N) (ha : 200 ≤ a) (hk : knd a = 3) (h : DR m n st E D) (hn : n ≤ 1024) (hst : st < n) (hD : D.length ≤ 25600) (hok : DOK n D) :
    ∃ m' W, WS D E n st W ∧ FrT a m m' ∧ ((tooBig D W ∧ F_X1_trimInto N m a = some (nI 0, m')) ∨ (¬ tooBig D W ∧ F_X1_trimInto N m a = some (nI 1, m') ∧ MC m' a (outQ D W st).length (outE E D W st) (outA D W st))) := by
  have hk1 := kM1 hk
  unfold F_X1_trimInto
  simp (disch := omega) only [zi_t, zi_f, bnd_t, zg_in, zx, nI_ltI, nI_leI, nI_eq, nI_add, pk_mul, pk_sub, mup_s, mup_c, mup_j, mrw_c, if_pos, if_neg, zm_1, zm_2, zm_3, zm_4, zm_5, zm_6, zm_7, zm_8, zm_9, zf_0, zf_1, zf_2, zf_3, zf_4, zf_5, zf_6, zf_7, zf_8, zf_9, zf_10, zf_14, zf_15, zf_16, zf_18, zf_19, zf_20, zf_24, zf_30, zf_31, zf_32, zf_33, zf_99, zf_100, zf_160, zf_200, zf_287, zf_288, zf_300, zf_1000, zf_1023, zf_1024, zf_1600, zf_3840, zf_25600, zf_36000, zf_1000000, zf_1000000000, zf_2000000000, zf_11560, za_1, za_2, za_4, za_5, za_6, za_7, za_8, za_9, za_10, za_11, za_12, za_14, za_15, za_22, za_23, za_25, za_26, za_27, za_28, za_29, za_30, za_31, za_32, za_33, za_34, za_35, za_41, za_42, za_43, za_44, za_45, za_46, za_47, za_48, za_49, za_61, za_62, za_63, za_64, za_65, za_70]
  obtain ⟨m3, e3⟩ : ∃ m3, m3 = mup (mup (mup m a 1 (nI 1)) a 2 (nI 0)) (a + 1) 2 (nI 0) := ⟨_, rfl⟩
  rw [← e3]
  have o3 : FrT a m m3 := fun c c1 c2 => by rw [e3, mup_r (by omega), mup_r (by omega), mup_r (by omega)]
  have d3 : DR m3 n st E D := h.cg (o3 3 (by omega) (by omega)) (o3 4 (by omega) (by omega)) (o3 5 (by omega) (by omega)) (o3 6 (by omega) (by omega))
  have a31 : m3 a 1 = nI 1 := by rw [e3]; simp (disch := omega) only [zi_t, zi_f, bnd_t, zg_in, zx, nI_ltI, nI_leI, nI_eq, nI_add, pk_mul, pk_sub, mup_s, mup_c, mup_j, mrw_c, if_pos, if_neg, zm_1, zm_2, zm_3, zm_4, zm_5, zm_6, zm_7, zm_8, zm_9, zf_0, zf_1, zf_2, zf_3, zf_4, zf_5, zf_6, zf_7, zf_8, zf_9, zf_10, zf_14, zf_15, zf_16, zf_18, zf_19, zf_20, zf_24, zf_30, zf_31, zf_32, zf_33, zf_99, zf_100, zf_160, zf_200, zf_287, zf_288, zf_300, zf_1000, zf_1023, zf_1024, zf_1600, zf_3840, zf_25600, zf_36000, zf_1000000, zf_1000000000, zf_2000000000, zf_11560, za_1, za_2, za_4, za_5, za_6, za_7, za_8, za_9, za_10, za_11, za_12, za_14, za_15, za_22, za_23, za_25, za_26, za_27, za_28, za_29, za_30, za_31, za_32, za_33, za_34, za_35, za_41, za_42, za_43, za_44, za_45, za_46, za_47, za_48, za_49, za_61, za_62, za_63, za_64, za_65, za_70]
  have a32 : m3 a 2 = nI 0 := by rw [e3]; simp (disch := omega) only [zi_t, zi_f, bnd_t, zg_in, zx, nI_ltI, nI_leI, nI_eq, nI_add, pk_mul, pk_sub, mup_s, mup_c, mup_j, mrw_c, if_pos, if_neg, zm_1, zm_2, zm_3, zm_4, zm_5, zm_6, zm_7, zm_8, zm_9, zf_0, zf_1, zf_2, zf_3, zf_4, zf_5, zf_6, zf_7, zf_8, zf_9, zf_10, zf_14, zf_15, zf_16, zf_18, zf_19, zf_20, zf_24, zf_30, zf_31, zf_32, zf_33, zf_99, zf_100, zf_160, zf_200, zf_287, zf_288, zf_300, zf_1000, zf_1023, zf_1024, zf_1600, zf_3840, zf_25600, zf_36000, zf_1000000, zf_1000000000, zf_2000000000, zf_11560, za_1, za_2, za_4, za_5, za_6, za_7, za_8, za_9, za_10, za_11, za_12, za_14, za_15, za_22, za_23, za_25, za_26, za_27, za_28, za_29, za_30, za_31, za_32, za_33, za_34, za_35, za_41, za_42, za_43, za_44, za_45, za_46, za_47, za_48, za_49, za_61, za_62, za_63, za_64, za_65, za_70]
  have a33 : m3 (a + 1) 2 = nI 0 := by rw [e3]; simp (disch := omega) only [zi_t, zi_f, bnd_t, zg_in, zx, nI_ltI, nI_leI, nI_eq, nI_add, pk_mul, pk_sub, mup_s, mup_c, mup_j, mrw_c, if_pos, if_neg, zm_1, zm_2, zm_3, zm_4, zm_5, zm_6, zm_7, zm_8, zm_9, zf_0, zf_1, zf_2, zf_3, zf_4, zf_5, zf_6, zf_7, zf_8, zf_9, zf_10, zf_14, zf_15, zf_16, zf_18, zf_19, zf_20, zf_24, zf_30, zf_31, zf_32, zf_33, zf_99, zf_100, zf_160, zf_200, zf_287, zf_288, zf_300, zf_1000, zf_1023, zf_1024, zf_1600, zf_3840, zf_25600, zf_36000, zf_1000000, zf_1000000000, zf_2000000000, zf_11560, za_1, za_2, za_4, za_5, za_6, za_7, za_8, za_9, za_10, za_11, za_12, za_14, za_15, za_22, za_23, za_25, za_26, za_27, za_28, za_29, za_30, za_31, za_32, za_33, za_34, za_35, za_41, za_42, za_43, za_44, za_45, za_46, za_47, za_48, za_49, za_61, za_62, za_63, za_64, za_65, za_70]
  obtain ⟨m5, Q0, g1, g2, g3, g4⟩ := dr_reached hN d3 hn hst hD hok
  have d5 : DR m5 n st E D := d3.cg (g4 3 (by omega)) (g4 4 (by omega)) (g4 5 (by omega)) (g4 6 (by omega))
  obtain ⟨m7, W, k1, k2, k3, k4⟩ := dr_useful hN d5 hn hst hD hok g2 g3
  have d7 : DR m7 n st E D := d5.cg (k4 3 (by omega)) (k4 4 (by omega)) (k4 5 (by omega)) (k4 6 (by omega))
  have o7 : FrT a m m7 := fun c c1 c2 => by rw [k4 c (by omega), g4 c (by omega), o3 c c1 c2]
  have a7 : ∀ c, a ≤ c → m7 c = m3 c := fun c hc => by rw [k4 c (by omega), g4 c (by omega)]
  have hW : WS D E n st W := ⟨k2.1, k3⟩
  have hwl := k2.len
  rw [calv_t g1, cal_t k1]
  by_cases hbig : 32 < W.length
  · refine ⟨m7, W, hW, o7, Or.inl ⟨Or.inl hbig, ?_⟩⟩
    simp (disch := omega) only [zi_t, zi_f, bnd_t, zg_in, zx, nI_ltI, nI_leI, nI_eq, nI_add, pk_mul, pk_sub, mup_s, mup_c, mup_j, mrw_c, if_pos, if_neg, zm_1, zm_2, zm_3, zm_4, zm_5, zm_6, zm_7, zm_8, zm_9, zf_0, zf_1, zf_2, zf_3, zf_4, zf_5, zf_6, zf_7, zf_8, zf_9, zf_10, zf_14, zf_15, zf_16, zf_18, zf_19, zf_20, zf_24, zf_30, zf_31, zf_32, zf_33, zf_99, zf_100, zf_160, zf_200, zf_287, zf_288, zf_300, zf_1000, zf_1023, zf_1024, zf_1600, zf_3840, zf_25600, zf_36000, zf_1000000, zf_1000000000, zf_2000000000, zf_11560, za_1, za_2, za_4, za_5, za_6, za_7, za_8, za_9, za_10, za_11, za_12, za_14, za_15, za_22, za_23, za_25, za_26, za_27, za_28, za_29, za_30, za_31, za_32, za_33, za_34, za_35, za_41, za_42, za_43, za_44, za_45, za_46, za_47, za_48, za_49, za_61, za_62, za_63, za_64, za_65, za_70]
  have e34 := d7.2.1
  by_cases hsW : st ∈ W
  · have hm11 := k2.2.2.2 st hst
    rw [decide_eq_true hsW, bI_t] at hm11
    simp (disch := omega) only [zi_t, zi_f, bnd_t, zg_in, zx, nI_ltI, nI_leI, nI_eq, nI_add, pk_mul, pk_sub, mup_s, mup_c, mup_j, mrw_c, if_pos, if_neg, zm_1, zm_2, zm_3, zm_4, zm_5, zm_6, zm_7, zm_8, zm_9, zf_0, zf_1, zf_2, zf_3, zf_4, zf_5, zf_6, zf_7, zf_8, zf_9, zf_10, zf_14, zf_15, zf_16, zf_18, zf_19, zf_20, zf_24, zf_30, zf_31, zf_32, zf_33, zf_99, zf_100, zf_160, zf_200, zf_287, zf_288, zf_300, zf_1000, zf_1023, zf_1024, zf_1600, zf_3840, zf_25600, zf_36000, zf_1000000, zf_1000000000, zf_2000000000, zf_11560, za_1, za_2, za_4, za_5, za_6, za_7, za_8, za_9, za_10, za_11, za_12, za_14, za_15, za_22, za_23, za_25, za_26, za_27, za_28, za_29, za_30, za_31, za_32, za_33, za_34, za_35, za_41, za_42, za_43, za_44, za_45, za_46, za_47, za_48, za_49, za_61, za_62, za_63, za_64, za_65, za_70, e34, hm11]
    obtain ⟨m11, p1, p2⟩ := dr_gather hN d7 hn hD hok k2
    have d11 : DR m11 n st E D := d7.cg (p1 3 (by omega)) (p1 4 (by omega)) (p1 5 (by omega)) (p1 6 (by omega))
    have o11 : FrT a m m11 := fun c c1 c2 => by rw [p1 c (by omega), o7 c c1 c2]
    rcases p2 with ⟨q0, q1, q2⟩ | ⟨q0, q1⟩
    · rw [cal_t q1]
      simp (disch := omega) only [zi_t, zi_f, bnd_t, zg_in, zx, nI_ltI, nI_leI, nI_eq, nI_add, pk_mul, pk_sub, mup_s, mup_c, mup_j, mrw_c, if_pos, if_neg, zm_1, zm_2, zm_3, zm_4, zm_5, zm_6, zm_7, zm_8, zm_9, zf_0, zf_1, zf_2, zf_3, zf_4, zf_5, zf_6, zf_7, zf_8, zf_9, zf_10, zf_14, zf_15, zf_16, zf_18, zf_19, zf_20, zf_24, zf_30, zf_31, zf_32, zf_33, zf_99, zf_100, zf_160, zf_200, zf_287, zf_288, zf_300, zf_1000, zf_1023, zf_1024, zf_1600, zf_3840, zf_25600, zf_36000, zf_1000000, zf_1000000000, zf_2000000000, zf_11560, za_1, za_2, za_4, za_5, za_6, za_7, za_8, za_9, za_10, za_11, za_12, za_14, za_15, za_22, za_23, za_25, za_26, za_27, za_28, za_29, za_30, za_31, za_32, za_33, za_34, za_35, za_41, za_42, za_43, za_44, za_45, za_46, za_47, za_48, za_49, za_61, za_62, za_63, za_64, za_65, za_70]
      have hord := ord_all hW hok hsW (by omega)
      obtain ⟨m14, r1, r2, r3⟩ := dr_number hN d11 hn hst (usA_ok (W := W) hok) (insL_srt _) q0 q2
      rw [cal_t r1]
      have ho14 : ∀ c, a ≤ c → m14 c = m3 c := fun c hc => by rw [r3 c (by omega) (by omega), p1 c (by omega), a7 c hc]
      obtain ⟨m16, e16⟩ : ∃ m16, m16 = mup m14 a 1 (nI (bfs (usA D W) 32 0 [st]).length) := ⟨_, rfl⟩
      rw [show mup m14 a 1 (nI (bfs (insL (List.filter (inW W) D) []) 32 0 [st]).length) = m16 from e16.symm]
      have f16 : ∀ c, c ≠ a → m16 c = m14 c := fun c hc => by rw [e16, mup_r hc]
      have f16' : ∀ c, c < 16 → c ≠ 9 → c ≠ 12 → m16 c = m11 c := fun c h1 h2 h3 => by rw [f16 c (by omega), r3 c h2 h3]
      have d16 : DR m16 n st E D := d11.cg (f16' 3 (by omega) (by omega) (by omega)) (f16' 4 (by omega) (by omega) (by omega)) (f16' 5 (by omega) (by omega) (by omega)) (f16' 6 (by omega) (by omega) (by omega))
      have n16 : NQ m16 n (bfs (usA D W) 32 0 [st]) := ⟨r2.1, r2.2.1, fun i q hq => by rw [f16 9 (by omega)]; exact r2.2.2.1 i q hq, fun s hs => by rw [f16 12 (by omega)]; exact r2.2.2.2 s hs⟩
      obtain ⟨m18, s1, s2, s3, s4⟩ := dr_writeEnds (a := a) hN ha d16 hn n16 (by rw [e16, mup_s]) (by rw [e16, mup_j (by omega), ho14 a (by omega), a32])
      rw [calv_t s1]
      have f18 : ∀ c, c ≠ a → m18 c = m16 c := fun c hc => s4 c (by omega)
      have n18 : NQ m18 n (bfs (usA D W) 32 0 [st]) := ⟨n16.1, n16.2.1, fun i q hq => by rw [f18 9 (by omega)]; exact n16.2.2.1 i q hq, fun s hs => by rw [f18 12 (by omega)]; exact n16.2.2.2 s hs⟩
      have ar18 : AR m18 13 (usA D W) := q2.cg (by rw [f18 13 (by omega), f16' 13 (by omega) (by omega) (by omega)]) (by rw [f18 14 (by omega), f16' 14 (by omega) (by omega) (by omega)]) (by rw [f18 15 (by omega), f16' 15 (by omega) (by omega) (by omega)])
      obtain ⟨m20, t1, t2, t3⟩ := dr_writeArcs (a := a) hN ha hk1 ar18 q0 (usA_ok (W := W) hok) hn n18 (fun q hq => ⟨(hord.2.1 _).mpr (usA_of hq).2.1, (hord.2.1 _).mpr (usA_of hq).2.2⟩) (by rw [f18 (a + 1) (by omega), f16 (a + 1) (by omega), ho14 (a + 1) (by omega), a33])
      rw [cal_t t1]
      refine ⟨m20, W, hW, ?_, Or.inr ⟨?_, ?_, ?_, ?_, t2⟩⟩
      · intro c c1 c2
        rw [t3 c (by omega), f18 c (by omega), f16 c (by omega), r3 c (by omega) (by omega), o11 c c1 c2]
      · rintro (hb | hb)
        · exact hbig hb
        · have q0 : (usA D W).length ≤ 160 := q0
          omega
      · rw [gd_t (show isb (nI 1) = true from rfl)]
      · rw [t3.at (by omega), s3]
      · rw [t3.at (by omega), s2]
    · rw [cal_t q1]
      simp (disch := omega) only [zi_t, zi_f, bnd_t, zg_in, zx, nI_ltI, nI_leI, nI_eq, nI_add, pk_mul, pk_sub, mup_s, mup_c, mup_j, mrw_c, if_pos, if_neg, zm_1, zm_2, zm_3, zm_4, zm_5, zm_6, zm_7, zm_8, zm_9, zf_0, zf_1, zf_2, zf_3, zf_4, zf_5, zf_6, zf_7, zf_8, zf_9, zf_10, zf_14, zf_15, zf_16, zf_18, zf_19, zf_20, zf_24, zf_30, zf_31, zf_32, zf_33, zf_99, zf_100, zf_160, zf_200, zf_287, zf_288, zf_300, zf_1000, zf_1023, zf_1024, zf_1600, zf_3840, zf_25600, zf_36000, zf_1000000, zf_1000000000, zf_2000000000, zf_11560, za_1, za_2, za_4, za_5, za_6, za_7, za_8, za_9, za_10, za_11, za_12, za_14, za_15, za_22, za_23, za_25, za_26, za_27, za_28, za_29, za_30, za_31, za_32, za_33, za_34, za_35, za_41, za_42, za_43, za_44, za_45, za_46, za_47, za_48, za_49, za_61, za_62, za_63, za_64, za_65, za_70]
      exact ⟨m11, W, hW, o11, Or.inl ⟨Or.inr q0, rfl⟩⟩
  · obtain ⟨w1, w2, w3, w4⟩ := ord_none hW hst hsW
    have hm11 := k2.2.2.2 st hst
    rw [decide_eq_false hsW, bI_f] at hm11
    simp (disch := omega) only [zi_t, zi_f, bnd_t, zg_in, zx, nI_ltI, nI_leI, nI_eq, nI_add, pk_mul, pk_sub, mup_s, mup_c, mup_j, mrw_c, if_pos, if_neg, zm_1, zm_2, zm_3, zm_4, zm_5, zm_6, zm_7, zm_8, zm_9, zf_0, zf_1, zf_2, zf_3, zf_4, zf_5, zf_6, zf_7, zf_8, zf_9, zf_10, zf_14, zf_15, zf_16, zf_18, zf_19, zf_20, zf_24, zf_30, zf_31, zf_32, zf_33, zf_99, zf_100, zf_160, zf_200, zf_287, zf_288, zf_300, zf_1000, zf_1023, zf_1024, zf_1600, zf_3840, zf_25600, zf_36000, zf_1000000, zf_1000000000, zf_2000000000, zf_11560, za_1, za_2, za_4, za_5, za_6, za_7, za_8, za_9, za_10, za_11, za_12, za_14, za_15, za_22, za_23, za_25, za_26, za_27, za_28, za_29, za_30, za_31, za_32, za_33, za_34, za_35, za_41, za_42, za_43, za_44, za_45, za_46, za_47, za_48, za_49, za_61, za_62, za_63, za_64, za_65, za_70, e34, hm11]
    refine ⟨m7, W, hW, o7, Or.inr ⟨?_, rfl, ?_, ?_, ?_, ?_⟩⟩
    · rintro (hb | hb)
      · exact hbig hb
      · rw [w2] at hb; exact absurd hb (Nat.not_lt_zero _)
    · rw [a7 a (by omega), a31]
      show nI 1 = nI (ordQ (usA D W) st).length
      rw [w3]; rfl
    · rw [a7 a (by omega), a32]
      show nI 0 = eB (endQ E (ordQ (usA D W) st)) (ordQ (usA D W) st).length
      rw [w3]
      show nI 0 = if endQ E [st] 0 = true then _ else nI 0
      rw [if_neg]
      show ¬ E st = true
      rw [w4]; simp
    · rw [a7 (a + 1) (by omega), a33]
      show nI 0 = nI (insL ((usA D W).map (reA (ordQ (usA D W) st))) []).length
      rw [w2]; rfl
    · intro j q hq
      have hq : (insL ((usA D W).map (reA (ordQ (usA D W) st))) [])[j]? = some q := hq
      rw [w2] at hq
      simp [insL] at hq
