/-! the model's rests of changes -/
theorem mc_less {N i k s p v : Nat} {fl : Bool} {Eg : Nat → Nat → Nat → Prop} {En : Nat → Prop} {m : Mem} {V : Nat → Nat} {r53 : Mem → Int32 → Int32 → Option Mem} {r138 : Mem → Int32 → Int32 → Int32 → Option Mem} {r157 : Mem → Int32 → Int32 → Int32 → Int32 → Option Mem} (hV : TM Eg En m V) (hk : k < 3840) (e75 : m 75 k = nI s) (ha : 32 * p + s < 288) (hv : v ≤ 2001000000) :
    B_X8_restsOfChanges_281 N r53 r138 r157 m (nI i) (bI fl) (nI k) (nI p) (nI v) = r157 (mup m 99 (32 * p + s) (nI (if v < V (32 * p + s) then v else V (32 * p + s)))) (nI i) (bI (fl || decide (v < V (32 * p + s)))) (nI k) (nI (p + 1)) := by
  obtain ⟨e1, e2, e3⟩ := hV _ ha
  have hVl : V (32 * p + s) ≤ 2000000000 := by rcases e2 with ⟨x, _⟩ | ⟨x, _⟩ <;> omega
  have hle := mo_lesser (a := v) (b := V (32 * p + s)) (by omega) (by omega)
  rw [les_eq] at hle
  unfold B_X8_restsOfChanges_281 B_X8_restsOfChanges_309 B_X8_restsOfChanges_314
  by_cases c : v < V (32 * p + s)
  · rw [if_pos c] at hle ⊢
    rw [decide_eq_true c, Bool.or_true]
    cases fl with
    | true => simp (disch := omega) only [zi_t, zi_f, bnd_t, zg_in, zx, nI_ltI, nI_leI, nI_eq, nI_add, pk_mul, pk_sub, mup_s, mup_c, mup_j, mrw_c, if_pos, if_neg, zm_1, zm_2, zm_3, zm_4, zm_5, zm_6, zm_7, zm_8, zm_9, zf_0, zf_1, zf_2, zf_3, zf_4, zf_5, zf_6, zf_7, zf_8, zf_9, zf_10, zf_14, zf_15, zf_16, zf_18, zf_19, zf_20, zf_24, zf_30, zf_31, zf_32, zf_33, zf_99, zf_100, zf_160, zf_200, zf_287, zf_288, zf_300, zf_1000, zf_1023, zf_1024, zf_1600, zf_3840, zf_25600, zf_36000, zf_1000000, zf_1000000000, zf_2000000000, zf_11560, za_1, za_2, za_4, za_5, za_6, za_7, za_8, za_9, za_10, za_11, za_12, za_14, za_15, za_22, za_23, za_25, za_26, za_27, za_28, za_29, za_30, za_31, za_32, za_33, za_34, za_35, za_41, za_42, za_43, za_44, za_45, za_46, za_47, za_48, za_49, za_61, za_62, za_63, za_64, za_65, za_71, za_72, za_73, za_74, za_75, za_76, za_77, za_78, za_79, za_80, za_81, za_82, za_83, za_84, za_85, za_86, za_87, za_88, za_89, za_90, za_91, za_92, za_93, za_94, za_95, za_96, za_97, za_98, za_99, za_100, za_101, za_102, za_103, za_104, za_105, za_106, za_107, za_108, bI_t, e75, e1, hle]
    | false => simp (disch := omega) only [zi_t, zi_f, bnd_t, zg_in, zx, nI_ltI, nI_leI, nI_eq, nI_add, pk_mul, pk_sub, mup_s, mup_c, mup_j, mrw_c, if_pos, if_neg, zm_1, zm_2, zm_3, zm_4, zm_5, zm_6, zm_7, zm_8, zm_9, zf_0, zf_1, zf_2, zf_3, zf_4, zf_5, zf_6, zf_7, zf_8, zf_9, zf_10, zf_14, zf_15, zf_16, zf_18, zf_19, zf_20, zf_24, zf_30, zf_31, zf_32, zf_33, zf_99, zf_100, zf_160, zf_200, zf_287, zf_288, zf_300, zf_1000, zf_1023, zf_1024, zf_1600, zf_3840, zf_25600, zf_36000, zf_1000000, zf_1000000000, zf_2000000000, zf_11560, za_1, za_2, za_4, za_5, za_6, za_7, za_8, za_9, za_10, za_11, za_12, za_14, za_15, za_22, za_23, za_25, za_26, za_27, za_28, za_29, za_30, za_31, za_32, za_33, za_34, za_35, za_41, za_42, za_43, za_44, za_45, za_46, za_47, za_48, za_49, za_61, za_62, za_63, za_64, za_65, za_71, za_72, za_73, za_74, za_75, za_76, za_77, za_78, za_79, za_80, za_81, za_82, za_83, za_84, za_85, za_86, za_87, za_88, za_89, za_90, za_91, za_92, za_93, za_94, za_95, za_96, za_97, za_98, za_99, za_100, za_101, za_102, za_103, za_104, za_105, za_106, za_107, za_108, bI_f, bI_t, e75, e1, hle]
  · rw [if_neg c] at hle ⊢
    rw [decide_eq_false c, Bool.or_false]
    cases fl with
    | true => simp (disch := omega) only [zi_t, zi_f, bnd_t, zg_in, zx, nI_ltI, nI_leI, nI_eq, nI_add, pk_mul, pk_sub, mup_s, mup_c, mup_j, mrw_c, if_pos, if_neg, zm_1, zm_2, zm_3, zm_4, zm_5, zm_6, zm_7, zm_8, zm_9, zf_0, zf_1, zf_2, zf_3, zf_4, zf_5, zf_6, zf_7, zf_8, zf_9, zf_10, zf_14, zf_15, zf_16, zf_18, zf_19, zf_20, zf_24, zf_30, zf_31, zf_32, zf_33, zf_99, zf_100, zf_160, zf_200, zf_287, zf_288, zf_300, zf_1000, zf_1023, zf_1024, zf_1600, zf_3840, zf_25600, zf_36000, zf_1000000, zf_1000000000, zf_2000000000, zf_11560, za_1, za_2, za_4, za_5, za_6, za_7, za_8, za_9, za_10, za_11, za_12, za_14, za_15, za_22, za_23, za_25, za_26, za_27, za_28, za_29, za_30, za_31, za_32, za_33, za_34, za_35, za_41, za_42, za_43, za_44, za_45, za_46, za_47, za_48, za_49, za_61, za_62, za_63, za_64, za_65, za_71, za_72, za_73, za_74, za_75, za_76, za_77, za_78, za_79, za_80, za_81, za_82, za_83, za_84, za_85, za_86, za_87, za_88, za_89, za_90, za_91, za_92, za_93, za_94, za_95, za_96, za_97, za_98, za_99, za_100, za_101, za_102, za_103, za_104, za_105, za_106, za_107, za_108, bI_t, e75, e1, hle]
    | false => simp (disch := omega) only [zi_t, zi_f, bnd_t, zg_in, zx, nI_ltI, nI_leI, nI_eq, nI_add, pk_mul, pk_sub, mup_s, mup_c, mup_j, mrw_c, if_pos, if_neg, zm_1, zm_2, zm_3, zm_4, zm_5, zm_6, zm_7, zm_8, zm_9, zf_0, zf_1, zf_2, zf_3, zf_4, zf_5, zf_6, zf_7, zf_8, zf_9, zf_10, zf_14, zf_15, zf_16, zf_18, zf_19, zf_20, zf_24, zf_30, zf_31, zf_32, zf_33, zf_99, zf_100, zf_160, zf_200, zf_287, zf_288, zf_300, zf_1000, zf_1023, zf_1024, zf_1600, zf_3840, zf_25600, zf_36000, zf_1000000, zf_1000000000, zf_2000000000, zf_11560, za_1, za_2, za_4, za_5, za_6, za_7, za_8, za_9, za_10, za_11, za_12, za_14, za_15, za_22, za_23, za_25, za_26, za_27, za_28, za_29, za_30, za_31, za_32, za_33, za_34, za_35, za_41, za_42, za_43, za_44, za_45, za_46, za_47, za_48, za_49, za_61, za_62, za_63, za_64, za_65, za_71, za_72, za_73, za_74, za_75, za_76, za_77, za_78, za_79, za_80, za_81, za_82, za_83, za_84, za_85, za_86, za_87, za_88, za_89, za_90, za_91, za_92, za_93, za_94, za_95, za_96, za_97, za_98, za_99, za_100, za_101, za_102, za_103, za_104, za_105, za_106, za_107, za_108, bI_f, e75, e1, hle]
theorem mc_change {N i j n p x : Nat} {f : Nat → Bool} {m : Mem} {L : ArL} {w : List Nat} {q : Nat × Nat} (h : MSt m i n f L w) (hi : i < 24) (hq : L[j]? = some q) (hj : j < 160) (hok : DOK n L) (hw : w.length ≤ 8) (hwx : ∀ x, x ∈ w → x < 8) (hx : w[p]? = some x) : F_X8_change N m (nI (160 * i + j)) (nI p) = some (nI (if x = upr q.1 then 0 else 1), m) := by
  have hp2 := (List.getElem?_eq_some_iff.mp hx).1
  have e2 := h.2.1
  have e71 := h.2.2 p x hx
  have e76 := (h.1.2.2.2 j q hq).2.1
  have hu := (hok q (List.mem_of_getElem? hq)).2.2.2.1
  have hx8 := hwx x (List.mem_of_getElem? hx)
  unfold F_X8_change B_X8_change_27 B_X8_change_28
  by_cases c : x = upr q.1
  · rw [if_pos c]
    rw [c] at e71
    simp (disch := omega) only [zi_t, zi_f, bnd_t, zg_in, zx, nI_ltI, nI_leI, nI_eq, nI_add, pk_mul, pk_sub, mup_s, mup_c, mup_j, mrw_c, if_pos, if_neg, zm_1, zm_2, zm_3, zm_4, zm_5, zm_6, zm_7, zm_8, zm_9, zf_0, zf_1, zf_2, zf_3, zf_4, zf_5, zf_6, zf_7, zf_8, zf_9, zf_10, zf_14, zf_15, zf_16, zf_18, zf_19, zf_20, zf_24, zf_30, zf_31, zf_32, zf_33, zf_99, zf_100, zf_160, zf_200, zf_287, zf_288, zf_300, zf_1000, zf_1023, zf_1024, zf_1600, zf_3840, zf_25600, zf_36000, zf_1000000, zf_1000000000, zf_2000000000, zf_11560, za_1, za_2, za_4, za_5, za_6, za_7, za_8, za_9, za_10, za_11, za_12, za_14, za_15, za_22, za_23, za_25, za_26, za_27, za_28, za_29, za_30, za_31, za_32, za_33, za_34, za_35, za_41, za_42, za_43, za_44, za_45, za_46, za_47, za_48, za_49, za_61, za_62, za_63, za_64, za_65, za_71, za_72, za_73, za_74, za_75, za_76, za_77, za_78, za_79, za_80, za_81, za_82, za_83, za_84, za_85, za_86, za_87, za_88, za_89, za_90, za_91, za_92, za_93, za_94, za_95, za_96, za_97, za_98, za_99, za_100, za_101, za_102, za_103, za_104, za_105, za_106, za_107, za_108, e2, e71, e76]
  · rw [if_neg c]
    simp (disch := omega) only [zi_t, zi_f, bnd_t, zg_in, zx, nI_ltI, nI_leI, nI_eq, nI_add, pk_mul, pk_sub, mup_s, mup_c, mup_j, mrw_c, if_pos, if_neg, zm_1, zm_2, zm_3, zm_4, zm_5, zm_6, zm_7, zm_8, zm_9, zf_0, zf_1, zf_2, zf_3, zf_4, zf_5, zf_6, zf_7, zf_8, zf_9, zf_10, zf_14, zf_15, zf_16, zf_18, zf_19, zf_20, zf_24, zf_30, zf_31, zf_32, zf_33, zf_99, zf_100, zf_160, zf_200, zf_287, zf_288, zf_300, zf_1000, zf_1023, zf_1024, zf_1600, zf_3840, zf_25600, zf_36000, zf_1000000, zf_1000000000, zf_2000000000, zf_11560, za_1, za_2, za_4, za_5, za_6, za_7, za_8, za_9, za_10, za_11, za_12, za_14, za_15, za_22, za_23, za_25, za_26, za_27, za_28, za_29, za_30, za_31, za_32, za_33, za_34, za_35, za_41, za_42, za_43, za_44, za_45, za_46, za_47, za_48, za_49, za_61, za_62, za_63, za_64, za_65, za_71, za_72, za_73, za_74, za_75, za_76, za_77, za_78, za_79, za_80, za_81, za_82, za_83, za_84, za_85, za_86, za_87, za_88, za_89, za_90, za_91, za_92, za_93, za_94, za_95, za_96, za_97, za_98, za_99, za_100, za_101, za_102, za_103, za_104, za_105, za_106, za_107, za_108, e2, e71, e76]
theorem mc_157 {N i j n p : Nat} {fl : Bool} {f : Nat → Bool} {m : Mem} {L : ArL} {w : List Nat} {q : Nat × Nat} {V : Nat → Nat} {Eg : Nat → Nat → Nat → Prop} {En : Nat → Prop} {r53 : Mem → Int32 → Int32 → Option Mem} {r138 : Mem → Int32 → Int32 → Int32 → Option Mem} {r157 : Mem → Int32 → Int32 → Int32 → Int32 → Option Mem} (h : MSt m i n f L w) (hi : i < 24) (hq : L[j]? = some q) (hj : j < 160) (hok : DOK n L) (hn : n ≤ 32) (hw : w.length ≤ 8) (hwx : ∀ x, x ∈ w → x < 8) (hp : p ≤ w.length) (hV : TM Eg En m V) :
    S_X8_restsOfChanges_157 N r53 r138 r157 m (nI i) (bI fl) (nI (160 * i + j)) (nI p) = B_X8_restsOfChanges_281 N r53 r138 r157 m (nI i) (bI fl) (nI (160 * i + j)) (nI p) (nI (vC V w q p)) := by
  have e2 := h.2.1
  obtain ⟨e75, e76, e77, e78, e79⟩ := h.1.2.2.2 j q hq
  have hqm := hok q (List.mem_of_getElem? hq)
  have hu := hqm.2.2.2.1
  have ht := hqm.2.2.1
  obtain ⟨b1, b2, b3⟩ := hV (32 * p + too q.1) (by omega)
  have hb : V (32 * p + too q.1) ≤ 2000000000 := by rcases b2 with ⟨x, _⟩ | ⟨x, _⟩ <;> omega
  have h219 : B_X8_restsOfChanges_219 N r53 r138 r157 m (nI i) (bI fl) (nI (160 * i + j)) (nI p) (nI (v1C V q p)) = B_X8_restsOfChanges_281 N r53 r138 r157 m (nI i) (bI fl) (nI (160 * i + j)) (nI p) (nI (vC V w q p)) := by
    unfold B_X8_restsOfChanges_219 B_X8_restsOfChanges_279
    by_cases c8 : upr q.1 = 8
    · have ev : vC V w q p = v1C V q p := by
        unfold vC
        have : v2C V w q p = none := by
          unfold v2C
          cases w[p]? with
          | none => rfl
          | some x => show (if upr q.1 = 8 then none else _) = none; rw [if_pos c8]
        rw [this]
      rw [ev]
      rw [c8] at e76
      simp (disch := omega) only [zi_t, zi_f, bnd_t, zg_in, zx, nI_ltI, nI_leI, nI_eq, nI_add, pk_mul, pk_sub, mup_s, mup_c, mup_j, mrw_c, if_pos, if_neg, zm_1, zm_2, zm_3, zm_4, zm_5, zm_6, zm_7, zm_8, zm_9, zf_0, zf_1, zf_2, zf_3, zf_4, zf_5, zf_6, zf_7, zf_8, zf_9, zf_10, zf_14, zf_15, zf_16, zf_18, zf_19, zf_20, zf_24, zf_30, zf_31, zf_32, zf_33, zf_99, zf_100, zf_160, zf_200, zf_287, zf_288, zf_300, zf_1000, zf_1023, zf_1024, zf_1600, zf_3840, zf_25600, zf_36000, zf_1000000, zf_1000000000, zf_2000000000, zf_11560, za_1, za_2, za_4, za_5, za_6, za_7, za_8, za_9, za_10, za_11, za_12, za_14, za_15, za_22, za_23, za_25, za_26, za_27, za_28, za_29, za_30, za_31, za_32, za_33, za_34, za_35, za_41, za_42, za_43, za_44, za_45, za_46, za_47, za_48, za_49, za_61, za_62, za_63, za_64, za_65, za_71, za_72, za_73, za_74, za_75, za_76, za_77, za_78, za_79, za_80, za_81, za_82, za_83, za_84, za_85, za_86, za_87, za_88, za_89, za_90, za_91, za_92, za_93, za_94, za_95, za_96, za_97, za_98, za_99, za_100, za_101, za_102, za_103, za_104, za_105, za_106, za_107, za_108, e76]
    · cases hwp : w[p]? with
      | none =>
        have hp2 : p = w.length := by
          rcases Nat.lt_or_ge p w.length with c | c
          · rw [List.getElem?_eq_getElem c] at hwp; cases hwp
          · omega
        have ev : vC V w q p = v1C V q p := by
          unfold vC v2C
          rw [hwp]
        rw [ev]
        simp (disch := omega) only [zi_t, zi_f, bnd_t, zg_in, zx, nI_ltI, nI_leI, nI_eq, nI_add, pk_mul, pk_sub, mup_s, mup_c, mup_j, mrw_c, if_pos, if_neg, zm_1, zm_2, zm_3, zm_4, zm_5, zm_6, zm_7, zm_8, zm_9, zf_0, zf_1, zf_2, zf_3, zf_4, zf_5, zf_6, zf_7, zf_8, zf_9, zf_10, zf_14, zf_15, zf_16, zf_18, zf_19, zf_20, zf_24, zf_30, zf_31, zf_32, zf_33, zf_99, zf_100, zf_160, zf_200, zf_287, zf_288, zf_300, zf_1000, zf_1023, zf_1024, zf_1600, zf_3840, zf_25600, zf_36000, zf_1000000, zf_1000000000, zf_2000000000, zf_11560, za_1, za_2, za_4, za_5, za_6, za_7, za_8, za_9, za_10, za_11, za_12, za_14, za_15, za_22, za_23, za_25, za_26, za_27, za_28, za_29, za_30, za_31, za_32, za_33, za_34, za_35, za_41, za_42, za_43, za_44, za_45, za_46, za_47, za_48, za_49, za_61, za_62, za_63, za_64, za_65, za_71, za_72, za_73, za_74, za_75, za_76, za_77, za_78, za_79, za_80, za_81, za_82, za_83, za_84, za_85, za_86, za_87, za_88, za_89, za_90, za_91, za_92, za_93, za_94, za_95, za_96, za_97, za_98, za_99, za_100, za_101, za_102, za_103, za_104, za_105, za_106, za_107, za_108, e76, e2]
      | some x =>
        have hp2 := (List.getElem?_eq_some_iff.mp hwp).1
        obtain ⟨d1, d2, d3⟩ := hV (32 * (p + 1) + too q.1) (by omega)
        have hd : V (32 * (p + 1) + too q.1) ≤ 2000000000 := by rcases d2 with ⟨x, _⟩ | ⟨x, _⟩ <;> omega
        have hch := mc_change (N := N) h hi hq hj hok hw hwx hwp
        have hpl := mo_plus (N := N) (m := m) (k := if x = upr q.1 then 0 else 1) hd (by split <;> omega)
        have hv1 : v1C V q p ≤ 2000000001 := by
          unfold v1C plN
          split
          · omega
          · split <;> omega
        have hr : plN (V (32 * (p + 1) + too q.1)) (if x = upr q.1 then 0 else 1) ≤ 2000000001 := by
          unfold plN
          split
          · omega
          · split <;> omega
        have hle := mo_lesser (a := v1C V q p) (b := plN (V (32 * (p + 1) + too q.1)) (if x = upr q.1 then 0 else 1)) (by omega) (by omega)
        have ev : vC V w q p = if plN (V (32 * (p + 1) + too q.1)) (if x = upr q.1 then 0 else 1) ≤ v1C V q p then plN (V (32 * (p + 1) + too q.1)) (if x = upr q.1 then 0 else 1) else v1C V q p := by
          have : v2C V w q p = some (plN (V (32 * (p + 1) + too q.1)) (if x = upr q.1 then 0 else 1)) := by
            unfold v2C
            rw [hwp]
            show (if upr q.1 = 8 then none else some _) = _
            rw [if_neg c8]
          unfold vC
          rw [this]
        rw [ev, ← hle]
        simp (disch := omega) only [zi_t, zi_f, bnd_t, zg_in, zx, nI_ltI, nI_leI, nI_eq, nI_add, pk_mul, pk_sub, mup_s, mup_c, mup_j, mrw_c, if_pos, if_neg, zm_1, zm_2, zm_3, zm_4, zm_5, zm_6, zm_7, zm_8, zm_9, zf_0, zf_1, zf_2, zf_3, zf_4, zf_5, zf_6, zf_7, zf_8, zf_9, zf_10, zf_14, zf_15, zf_16, zf_18, zf_19, zf_20, zf_24, zf_30, zf_31, zf_32, zf_33, zf_99, zf_100, zf_160, zf_200, zf_287, zf_288, zf_300, zf_1000, zf_1023, zf_1024, zf_1600, zf_3840, zf_25600, zf_36000, zf_1000000, zf_1000000000, zf_2000000000, zf_11560, za_1, za_2, za_4, za_5, za_6, za_7, za_8, za_9, za_10, za_11, za_12, za_14, za_15, za_22, za_23, za_25, za_26, za_27, za_28, za_29, za_30, za_31, za_32, za_33, za_34, za_35, za_41, za_42, za_43, za_44, za_45, za_46, za_47, za_48, za_49, za_61, za_62, za_63, za_64, za_65, za_71, za_72, za_73, za_74, za_75, za_76, za_77, za_78, za_79, za_80, za_81, za_82, za_83, za_84, za_85, za_86, za_87, za_88, za_89, za_90, za_91, za_92, za_93, za_94, za_95, za_96, za_97, za_98, za_99, za_100, za_101, za_102, za_103, za_104, za_105, za_106, za_107, za_108, e76, e2, e79]
        rw [cal_t hch, d1, cal_t hpl]
  rw [← h219]
  unfold S_X8_restsOfChanges_157
  by_cases c8 : upr q.1 = 8
  · have ev : v1C V q p = V (32 * p + too q.1) := by unfold v1C; rw [if_pos c8]
    rw [ev]
    rw [c8] at e76
    simp (disch := omega) only [zi_t, zi_f, bnd_t, zg_in, zx, nI_ltI, nI_leI, nI_eq, nI_add, pk_mul, pk_sub, mup_s, mup_c, mup_j, mrw_c, if_pos, if_neg, zm_1, zm_2, zm_3, zm_4, zm_5, zm_6, zm_7, zm_8, zm_9, zf_0, zf_1, zf_2, zf_3, zf_4, zf_5, zf_6, zf_7, zf_8, zf_9, zf_10, zf_14, zf_15, zf_16, zf_18, zf_19, zf_20, zf_24, zf_30, zf_31, zf_32, zf_33, zf_99, zf_100, zf_160, zf_200, zf_287, zf_288, zf_300, zf_1000, zf_1023, zf_1024, zf_1600, zf_3840, zf_25600, zf_36000, zf_1000000, zf_1000000000, zf_2000000000, zf_11560, za_1, za_2, za_4, za_5, za_6, za_7, za_8, za_9, za_10, za_11, za_12, za_14, za_15, za_22, za_23, za_25, za_26, za_27, za_28, za_29, za_30, za_31, za_32, za_33, za_34, za_35, za_41, za_42, za_43, za_44, za_45, za_46, za_47, za_48, za_49, za_61, za_62, za_63, za_64, za_65, za_71, za_72, za_73, za_74, za_75, za_76, za_77, za_78, za_79, za_80, za_81, za_82, za_83, za_84, za_85, za_86, za_87, za_88, za_89, za_90, za_91, za_92, za_93, za_94, za_95, za_96, za_97, za_98, za_99, za_100, za_101, za_102, za_103, za_104, za_105, za_106, za_107, za_108, e2, e76, e79, b1]
  · have ev : v1C V q p = plN (V (32 * p + too q.1)) 1 := by unfold v1C; rw [if_neg c8]
    have hpl := mo_plus (N := N) (m := m) (k := 1) hb (by omega)
    rw [ev]
    simp (disch := omega) only [zi_t, zi_f, bnd_t, zg_in, zx, nI_ltI, nI_leI, nI_eq, nI_add, pk_mul, pk_sub, mup_s, mup_c, mup_j, mrw_c, if_pos, if_neg, zm_1, zm_2, zm_3, zm_4, zm_5, zm_6, zm_7, zm_8, zm_9, zf_0, zf_1, zf_2, zf_3, zf_4, zf_5, zf_6, zf_7, zf_8, zf_9, zf_10, zf_14, zf_15, zf_16, zf_18, zf_19, zf_20, zf_24, zf_30, zf_31, zf_32, zf_33, zf_99, zf_100, zf_160, zf_200, zf_287, zf_288, zf_300, zf_1000, zf_1023, zf_1024, zf_1600, zf_3840, zf_25600, zf_36000, zf_1000000, zf_1000000000, zf_2000000000, zf_11560, za_1, za_2, za_4, za_5, za_6, za_7, za_8, za_9, za_10, za_11, za_12, za_14, za_15, za_22, za_23, za_25, za_26, za_27, za_28, za_29, za_30, za_31, za_32, za_33, za_34, za_35, za_41, za_42, za_43, za_44, za_45, za_46, za_47, za_48, za_49, za_61, za_62, za_63, za_64, za_65, za_71, za_72, za_73, za_74, za_75, za_76, za_77, za_78, za_79, za_80, za_81, za_82, za_83, za_84, za_85, za_86, za_87, za_88, za_89, za_90, za_91, za_92, za_93, za_94, za_95, za_96, za_97, za_98, za_99, za_100, za_101, za_102, za_103, za_104, za_105, za_106, za_107, za_108, e2, e76, e79, b1]
    rw [cal_t hpl]
