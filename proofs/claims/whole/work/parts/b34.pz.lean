/-! the model's least costs -/
def MSt (m : Mem) (i n : Nat) (f : Nat → Bool) (L : ArL) (w : List Nat) : Prop := MM m i n (eB f n) L ∧ m 70 2 = nI w.length ∧ ∀ j x, w[j]? = some x → m 71 j = nI x
theorem MSt.cg {m m' : Mem} {i n : Nat} {f : Nat → Bool} {L : ArL} {w : List Nat} (h : MSt m i n f L w) (hf : ∀ k, 71 ≤ k → k < 80 → m' k = m k) (h2 : m' 70 2 = m 70 2) : MSt m' i n f L w :=
  ⟨h.1.cg (fun k a b => by rw [hf k (by omega) (by omega)]) (fun k j a b _ => by rw [hf k (by omega) (by omega)]), by rw [h2]; exact h.2.1, fun j x hx => by rw [hf 71 (by omega) (by omega)]; exact h.2.2 j x hx⟩
def wU (u : Bool) : Nat := if u = true then 1 else 0
theorem wU_lt (u : Bool) : wU u ≠ 2 ∧ wU u < 3 := by
  cases u
  · exact ⟨by decide, by decide⟩
  · exact ⟨by decide, by decide⟩
def bhd (u : Bool) (w : List Nat) (q : Nat × Nat) (p : Nat) : Option Nat := if rdW (wU u) q = 8 then some p else match w[p]? with
  | none => none
  | some x => if x = rdW (wU u) q then some (p + 1) else none
theorem mo_inOf {N i j : Nat} {u : Bool} {m : Mem} {n : Nat} {e : Int32} {L : ArL} {q : Nat × Nat} (h : MM m i n e L) (hi : i < 24) (hq : L[j]? = some q) (hj : j < 160) (hok : DOK n L) : F_X8_inOf N m (nI (160 * i + j)) (bI u) = some (nI (rdW (wU u) q), m) := by
  obtain ⟨e1, e2, e3, e4, e5⟩ := h.2.2.2 j q hq
  unfold F_X8_inOf B_X8_inOf_19
  cases u with
  | false =>
    simp (disch := omega) only [zi_t, zi_f, bnd_t, zg_in, zx, nI_ltI, nI_leI, nI_eq, nI_add, pk_mul, pk_sub, mup_s, mup_c, mup_j, mrw_c, if_pos, if_neg, zm_1, zm_2, zm_3, zm_4, zm_5, zm_6, zm_7, zm_8, zm_9, zf_0, zf_1, zf_2, zf_3, zf_4, zf_5, zf_6, zf_7, zf_8, zf_9, zf_10, zf_14, zf_15, zf_16, zf_18, zf_19, zf_20, zf_24, zf_30, zf_31, zf_32, zf_33, zf_99, zf_100, zf_160, zf_200, zf_287, zf_288, zf_300, zf_1000, zf_1023, zf_1024, zf_1600, zf_3840, zf_25600, zf_36000, zf_1000000, zf_1000000000, zf_2000000000, zf_11560, za_1, za_2, za_4, za_5, za_6, za_7, za_8, za_9, za_10, za_11, za_12, za_14, za_15, za_22, za_23, za_25, za_26, za_27, za_28, za_29, za_30, za_31, za_32, za_33, za_34, za_35, za_41, za_42, za_43, za_44, za_45, za_46, za_47, za_48, za_49, za_61, za_62, za_63, za_64, za_65, za_71, za_72, za_73, za_74, za_75, za_76, za_77, za_78, za_79, za_80, za_81, za_82, za_83, za_84, za_85, za_86, za_87, za_88, za_89, za_90, za_91, za_92, za_93, za_94, za_95, za_96, za_97, za_98, za_99, za_100, za_101, za_102, za_103, za_104, za_105, za_106, za_107, za_108, bI_f, e2]
    rfl
  | true =>
    simp (disch := omega) only [zi_t, zi_f, bnd_t, zg_in, zx, nI_ltI, nI_leI, nI_eq, nI_add, pk_mul, pk_sub, mup_s, mup_c, mup_j, mrw_c, if_pos, if_neg, zm_1, zm_2, zm_3, zm_4, zm_5, zm_6, zm_7, zm_8, zm_9, zf_0, zf_1, zf_2, zf_3, zf_4, zf_5, zf_6, zf_7, zf_8, zf_9, zf_10, zf_14, zf_15, zf_16, zf_18, zf_19, zf_20, zf_24, zf_30, zf_31, zf_32, zf_33, zf_99, zf_100, zf_160, zf_200, zf_287, zf_288, zf_300, zf_1000, zf_1023, zf_1024, zf_1600, zf_3840, zf_25600, zf_36000, zf_1000000, zf_1000000000, zf_2000000000, zf_11560, za_1, za_2, za_4, za_5, za_6, za_7, za_8, za_9, za_10, za_11, za_12, za_14, za_15, za_22, za_23, za_25, za_26, za_27, za_28, za_29, za_30, za_31, za_32, za_33, za_34, za_35, za_41, za_42, za_43, za_44, za_45, za_46, za_47, za_48, za_49, za_61, za_62, za_63, za_64, za_65, za_71, za_72, za_73, za_74, za_75, za_76, za_77, za_78, za_79, za_80, za_81, za_82, za_83, za_84, za_85, za_86, za_87, za_88, za_89, za_90, za_91, za_92, za_93, za_94, za_95, za_96, za_97, za_98, za_99, za_100, za_101, za_102, za_103, za_104, za_105, za_106, za_107, za_108, bI_t, e3]
    rfl
theorem mo_outOf {N i j : Nat} {u : Bool} {m : Mem} {n : Nat} {e : Int32} {L : ArL} {q : Nat × Nat} (h : MM m i n e L) (hi : i < 24) (hq : L[j]? = some q) (hj : j < 160) (hok : DOK n L) : F_X8_outOf N m (nI (160 * i + j)) (bI u) = some (nI (syW (wU u) q), m) := by
  obtain ⟨e1, e2, e3, e4, e5⟩ := h.2.2.2 j q hq
  unfold F_X8_outOf B_X8_outOf_19
  cases u with
  | false =>
    simp (disch := omega) only [zi_t, zi_f, bnd_t, zg_in, zx, nI_ltI, nI_leI, nI_eq, nI_add, pk_mul, pk_sub, mup_s, mup_c, mup_j, mrw_c, if_pos, if_neg, zm_1, zm_2, zm_3, zm_4, zm_5, zm_6, zm_7, zm_8, zm_9, zf_0, zf_1, zf_2, zf_3, zf_4, zf_5, zf_6, zf_7, zf_8, zf_9, zf_10, zf_14, zf_15, zf_16, zf_18, zf_19, zf_20, zf_24, zf_30, zf_31, zf_32, zf_33, zf_99, zf_100, zf_160, zf_200, zf_287, zf_288, zf_300, zf_1000, zf_1023, zf_1024, zf_1600, zf_3840, zf_25600, zf_36000, zf_1000000, zf_1000000000, zf_2000000000, zf_11560, za_1, za_2, za_4, za_5, za_6, za_7, za_8, za_9, za_10, za_11, za_12, za_14, za_15, za_22, za_23, za_25, za_26, za_27, za_28, za_29, za_30, za_31, za_32, za_33, za_34, za_35, za_41, za_42, za_43, za_44, za_45, za_46, za_47, za_48, za_49, za_61, za_62, za_63, za_64, za_65, za_71, za_72, za_73, za_74, za_75, za_76, za_77, za_78, za_79, za_80, za_81, za_82, za_83, za_84, za_85, za_86, za_87, za_88, za_89, za_90, za_91, za_92, za_93, za_94, za_95, za_96, za_97, za_98, za_99, za_100, za_101, za_102, za_103, za_104, za_105, za_106, za_107, za_108, bI_f, e3]
    rfl
  | true =>
    simp (disch := omega) only [zi_t, zi_f, bnd_t, zg_in, zx, nI_ltI, nI_leI, nI_eq, nI_add, pk_mul, pk_sub, mup_s, mup_c, mup_j, mrw_c, if_pos, if_neg, zm_1, zm_2, zm_3, zm_4, zm_5, zm_6, zm_7, zm_8, zm_9, zf_0, zf_1, zf_2, zf_3, zf_4, zf_5, zf_6, zf_7, zf_8, zf_9, zf_10, zf_14, zf_15, zf_16, zf_18, zf_19, zf_20, zf_24, zf_30, zf_31, zf_32, zf_33, zf_99, zf_100, zf_160, zf_200, zf_287, zf_288, zf_300, zf_1000, zf_1023, zf_1024, zf_1600, zf_3840, zf_25600, zf_36000, zf_1000000, zf_1000000000, zf_2000000000, zf_11560, za_1, za_2, za_4, za_5, za_6, za_7, za_8, za_9, za_10, za_11, za_12, za_14, za_15, za_22, za_23, za_25, za_26, za_27, za_28, za_29, za_30, za_31, za_32, za_33, za_34, za_35, za_41, za_42, za_43, za_44, za_45, za_46, za_47, za_48, za_49, za_61, za_62, za_63, za_64, za_65, za_71, za_72, za_73, za_74, za_75, za_76, za_77, za_78, za_79, za_80, za_81, za_82, za_83, za_84, za_85, za_86, za_87, za_88, za_89, za_90, za_91, za_92, za_93, za_94, za_95, za_96, za_97, za_98, za_99, za_100, za_101, za_102, za_103, za_104, za_105, za_106, za_107, za_108, bI_t, e2]
    rfl
theorem mo_behind {N i j n p : Nat} {u : Bool} {f : Nat → Bool} {m : Mem} {L : ArL} {w : List Nat} {q : Nat × Nat} (h : MSt m i n f L w) (hi : i < 24) (hq : L[j]? = some q) (hj : j < 160) (hok : DOK n L) (hw : w.length ≤ 8) (hwx : ∀ x, x ∈ w → x < 8) (hp : p ≤ w.length) : F_X8_behind N m (nI (160 * i + j)) (nI p) (bI u) = some (an (bhd u w q p), m) := by
  have e1 := mo_inOf (N := N) (u := u) h.1 hi hq hj hok
  have hr := rdW_le (way := wU u) (hok q (List.mem_of_getElem? hq))
  have e2 := h.2.1
  unfold F_X8_behind B_X8_behind_44 B_X8_behind_45 bhd
  rw [cal_t e1]
  by_cases c8 : rdW (wU u) q = 8
  · rw [if_pos c8, c8]
    simp (disch := omega) only [zi_t, zi_f, bnd_t, zg_in, zx, nI_ltI, nI_leI, nI_eq, nI_add, pk_mul, pk_sub, mup_s, mup_c, mup_j, mrw_c, if_pos, if_neg, zm_1, zm_2, zm_3, zm_4, zm_5, zm_6, zm_7, zm_8, zm_9, zf_0, zf_1, zf_2, zf_3, zf_4, zf_5, zf_6, zf_7, zf_8, zf_9, zf_10, zf_14, zf_15, zf_16, zf_18, zf_19, zf_20, zf_24, zf_30, zf_31, zf_32, zf_33, zf_99, zf_100, zf_160, zf_200, zf_287, zf_288, zf_300, zf_1000, zf_1023, zf_1024, zf_1600, zf_3840, zf_25600, zf_36000, zf_1000000, zf_1000000000, zf_2000000000, zf_11560, za_1, za_2, za_4, za_5, za_6, za_7, za_8, za_9, za_10, za_11, za_12, za_14, za_15, za_22, za_23, za_25, za_26, za_27, za_28, za_29, za_30, za_31, za_32, za_33, za_34, za_35, za_41, za_42, za_43, za_44, za_45, za_46, za_47, za_48, za_49, za_61, za_62, za_63, za_64, za_65, za_71, za_72, za_73, za_74, za_75, za_76, za_77, za_78, za_79, za_80, za_81, za_82, za_83, za_84, za_85, za_86, za_87, za_88, za_89, za_90, za_91, za_92, za_93, za_94, za_95, za_96, za_97, za_98, za_99, za_100, za_101, za_102, za_103, za_104, za_105, za_106, za_107, za_108]
    rfl
  · rw [if_neg c8]
    cases hwp : w[p]? with
    | none =>
      have hp2 : p = w.length := by
        rcases Nat.lt_or_ge p w.length with c | c
        · rw [List.getElem?_eq_getElem c] at hwp; cases hwp
        · omega
      simp (disch := omega) only [zi_t, zi_f, bnd_t, zg_in, zx, nI_ltI, nI_leI, nI_eq, nI_add, pk_mul, pk_sub, mup_s, mup_c, mup_j, mrw_c, if_pos, if_neg, zm_1, zm_2, zm_3, zm_4, zm_5, zm_6, zm_7, zm_8, zm_9, zf_0, zf_1, zf_2, zf_3, zf_4, zf_5, zf_6, zf_7, zf_8, zf_9, zf_10, zf_14, zf_15, zf_16, zf_18, zf_19, zf_20, zf_24, zf_30, zf_31, zf_32, zf_33, zf_99, zf_100, zf_160, zf_200, zf_287, zf_288, zf_300, zf_1000, zf_1023, zf_1024, zf_1600, zf_3840, zf_25600, zf_36000, zf_1000000, zf_1000000000, zf_2000000000, zf_11560, za_1, za_2, za_4, za_5, za_6, za_7, za_8, za_9, za_10, za_11, za_12, za_14, za_15, za_22, za_23, za_25, za_26, za_27, za_28, za_29, za_30, za_31, za_32, za_33, za_34, za_35, za_41, za_42, za_43, za_44, za_45, za_46, za_47, za_48, za_49, za_61, za_62, za_63, za_64, za_65, za_71, za_72, za_73, za_74, za_75, za_76, za_77, za_78, za_79, za_80, za_81, za_82, za_83, za_84, za_85, za_86, za_87, za_88, za_89, za_90, za_91, za_92, za_93, za_94, za_95, za_96, za_97, za_98, za_99, za_100, za_101, za_102, za_103, za_104, za_105, za_106, za_107, za_108, e2]
      rfl
    | some x =>
      have hp2 := (List.getElem?_eq_some_iff.mp hwp).1
      have e71 := h.2.2 p x hwp
      have hx := hwx x (List.mem_of_getElem? hwp)
      show _ = some (an (if x = rdW (wU u) q then some (p + 1) else none), m)
      by_cases cx : x = rdW (wU u) q
      · rw [if_pos cx, ← cx]
        have cx8 : x ≠ 8 := by omega
        simp (disch := omega) only [zi_t, zi_f, bnd_t, zg_in, zx, nI_ltI, nI_leI, nI_eq, nI_add, pk_mul, pk_sub, mup_s, mup_c, mup_j, mrw_c, if_pos, if_neg, zm_1, zm_2, zm_3, zm_4, zm_5, zm_6, zm_7, zm_8, zm_9, zf_0, zf_1, zf_2, zf_3, zf_4, zf_5, zf_6, zf_7, zf_8, zf_9, zf_10, zf_14, zf_15, zf_16, zf_18, zf_19, zf_20, zf_24, zf_30, zf_31, zf_32, zf_33, zf_99, zf_100, zf_160, zf_200, zf_287, zf_288, zf_300, zf_1000, zf_1023, zf_1024, zf_1600, zf_3840, zf_25600, zf_36000, zf_1000000, zf_1000000000, zf_2000000000, zf_11560, za_1, za_2, za_4, za_5, za_6, za_7, za_8, za_9, za_10, za_11, za_12, za_14, za_15, za_22, za_23, za_25, za_26, za_27, za_28, za_29, za_30, za_31, za_32, za_33, za_34, za_35, za_41, za_42, za_43, za_44, za_45, za_46, za_47, za_48, za_49, za_61, za_62, za_63, za_64, za_65, za_71, za_72, za_73, za_74, za_75, za_76, za_77, za_78, za_79, za_80, za_81, za_82, za_83, za_84, za_85, za_86, za_87, za_88, za_89, za_90, za_91, za_92, za_93, za_94, za_95, za_96, za_97, za_98, za_99, za_100, za_101, za_102, za_103, za_104, za_105, za_106, za_107, za_108, e2, e71]
        rfl
      · rw [if_neg cx]
        simp (disch := omega) only [zi_t, zi_f, bnd_t, zg_in, zx, nI_ltI, nI_leI, nI_eq, nI_add, pk_mul, pk_sub, mup_s, mup_c, mup_j, mrw_c, if_pos, if_neg, zm_1, zm_2, zm_3, zm_4, zm_5, zm_6, zm_7, zm_8, zm_9, zf_0, zf_1, zf_2, zf_3, zf_4, zf_5, zf_6, zf_7, zf_8, zf_9, zf_10, zf_14, zf_15, zf_16, zf_18, zf_19, zf_20, zf_24, zf_30, zf_31, zf_32, zf_33, zf_99, zf_100, zf_160, zf_200, zf_287, zf_288, zf_300, zf_1000, zf_1023, zf_1024, zf_1600, zf_3840, zf_25600, zf_36000, zf_1000000, zf_1000000000, zf_2000000000, zf_11560, za_1, za_2, za_4, za_5, za_6, za_7, za_8, za_9, za_10, za_11, za_12, za_14, za_15, za_22, za_23, za_25, za_26, za_27, za_28, za_29, za_30, za_31, za_32, za_33, za_34, za_35, za_41, za_42, za_43, za_44, za_45, za_46, za_47, za_48, za_49, za_61, za_62, za_63, za_64, za_65, za_71, za_72, za_73, za_74, za_75, za_76, za_77, za_78, za_79, za_80, za_81, za_82, za_83, za_84, za_85, za_86, za_87, za_88, za_89, za_90, za_91, za_92, za_93, za_94, za_95, za_96, za_97, za_98, za_99, za_100, za_101, za_102, za_103, za_104, za_105, za_106, za_107, za_108, e2, e71]
        rfl
theorem bhd_eg {u : Bool} {w : List Nat} {q : Nat × Nat} {p p' : Nat} {L : ArL} (hq : q ∈ L) (hp : p ≤ w.length) (h : bhd u w q p = some p') : p' ≤ w.length ∧ Eg (wU u) L w (32 * p + fr q.1) q.2 (32 * p' + too q.1) (syW (wU u) q) ∧ (p' = p ∨ p' = p + 1) := by
  obtain ⟨u2, _⟩ := wU_lt u
  unfold bhd at h
  by_cases c8 : rdW (wU u) q = 8
  · rw [if_pos c8] at h
    have e := Option.some.inj h
    subst e
    refine ⟨hp, ⟨p, hp, Or.inl ⟨q, hq, ?_, rfl, rfl, rfl⟩⟩, Or.inl rfl⟩
    unfold cSt
    rw [if_neg u2, if_pos c8]
  · rw [if_neg c8] at h
    cases hwp : w[p]? with
    | none => rw [hwp] at h; cases h
    | some x =>
      rw [hwp] at h
      have h : (if x = rdW (wU u) q then some (p + 1) else none) = some p' := h
      have hp2 := (List.getElem?_eq_some_iff.mp hwp).1
      by_cases cx : x = rdW (wU u) q
      · rw [if_pos cx] at h
        have e := Option.some.inj h
        subst e
        refine ⟨by omega, ⟨p, hp, Or.inr (Or.inl ⟨q, hq, ?_, rfl, rfl, rfl⟩)⟩, Or.inr rfl⟩
        unfold cRd
        rw [hwp]
        show (if rdW (wU u) q = 8 then none else if wU u = 2 then some (if rdW (wU u) q = x then 0 else 1) else if rdW (wU u) q = x then some q.2 else none) = some q.2
        rw [if_neg c8, if_neg u2, if_pos cx.symm]
      · rw [if_neg cx] at h; cases h
theorem st_bhd {u : Bool} {w : List Nat} {q : Nat × Nat} {p c : Nat} (h : cSt (wU u) q = some c) : bhd u w q p = some p ∧ c = q.2 := by
  obtain ⟨u2, _⟩ := wU_lt u
  unfold cSt at h
  rw [if_neg u2] at h
  split at h
  · rename_i c8
    unfold bhd
    rw [if_pos c8]
    exact ⟨rfl, (Option.some.inj h).symm⟩
  · cases h
theorem rd_bhd {u : Bool} {w : List Nat} {q : Nat × Nat} {p c : Nat} (h : cRd (wU u) w p q = some c) : bhd u w q p = some (p + 1) ∧ c = q.2 := by
  obtain ⟨u2, _⟩ := wU_lt u
  unfold cRd at h
  cases hwp : w[p]? with
  | none => rw [hwp] at h; cases h
  | some x =>
    rw [hwp] at h
    have h : (if rdW (wU u) q = 8 then none else if wU u = 2 then some (if rdW (wU u) q = x then 0 else 1) else if rdW (wU u) q = x then some q.2 else none) = some c := h
    rw [if_neg u2] at h
    split at h
    · cases h
    · rename_i c8
      split at h
      · rename_i cx
        unfold bhd
        rw [if_neg c8, hwp]
        show (if x = rdW (wU u) q then some (p + 1) else none) = some (p + 1) ∧ _
        rw [if_pos cx.symm]
        exact ⟨rfl, (Option.some.inj h).symm⟩
      · cases h
/-- the model's table of least costs -/
def TM (Eg : Nat → Nat → Nat → Prop) (En : Nat → Prop) (m : Mem) (V : Nat → Nat) : Prop := ∀ a, a < 288 → m 99 a = nI (V a) ∧ ((V a = 2000000000 ∧ ¬ En a) ∨ (V a < 2000000000 ∧ Wy Eg En a (V a))) ∧ (En a → V a = 0)
def lwV (V : Nat → Nat) (a v : Nat) (x : Nat) : Nat := if x = a then (if v < V a then v else V a) else V x
theorem lwV_le {V : Nat → Nat} {a v : Nat} (x : Nat) : lwV V a v x ≤ V x := by
  unfold lwV
  split
  · rename_i e
    rw [e]
    split <;> omega
  · exact Nat.le_refl _
theorem lwV_at {V : Nat → Nat} {a v : Nat} : lwV V a v a ≤ v := by
  unfold lwV
  rw [if_pos rfl]
  split <;> omega
theorem tm_up {Eg : Nat → Nat → Nat → Prop} {En : Nat → Prop} {m : Mem} {V : Nat → Nat} {a v : Nat} (h : TM Eg En m V) (ha : a < 288) (hv : v < V a → Wy Eg En a v ∧ v < 2000000000) : TM Eg En (mup m 99 a (nI (if v < V a then v else V a))) (lwV V a v) := by
  intro b hb
  obtain ⟨e1, e2, e3⟩ := h b hb
  unfold lwV
  by_cases e : b = a
  · subst e
    rw [if_pos rfl, mup_s]
    refine ⟨rfl, ?_, fun he => ?_⟩
    · by_cases c : v < V b
      · rw [if_pos c]
        exact Or.inr ⟨(hv c).2, (hv c).1⟩
      · rw [if_neg c]; exact e2
    · have := e3 he
      rw [if_neg (by omega)]; exact this
  · rw [if_neg e, mup_j (by omega)]
    exact ⟨e1, e2, e3⟩
