/-! the model lets go on what is here -/
def HI (m0 : Mem) (V0 : Nat → Nat) (R : Nat → Nat → Prop) (m : Mem) (V : Nat → Nat) (fl : Bool) : Prop := Fx 100 101 [] m0 m ∧ HV m 100 V R ∧ (∀ y, V y ≤ V0 y) ∧ (fl = false → V = V0) ∧ (fl = true → ∃ a, a < 288 ∧ V a < V0 a)
theorem HI.up {m0 m : Mem} {V0 V : Nat → Nat} {R : Nat → Nat → Prop} {fl : Bool} {b v : Nat} (h : HI m0 V0 R m V fl) (hb : b < 288) (hv : v < V b → R b v) : HI m0 V0 R (mup m 100 b (nI (if v < V b then v else V b))) (lwV V b v) (fl || decide (v < V b)) := by
  obtain ⟨j1, j2, j3, j5, j6⟩ := h
  refine ⟨j1.up (by omega) (by omega) (by omega), j2.up hb hv, fun y => Nat.le_trans (lwV_le y) (j3 y), fun hfl => ?_, fun hfl => ?_⟩
  · rw [Bool.or_eq_false_iff] at hfl
    rw [lwV_id (of_decide_eq_false hfl.2)]
    exact j5 hfl.1
  · rw [Bool.or_eq_true] at hfl
    rcases hfl with hfl | hfl
    · obtain ⟨a, ha, hlt⟩ := j6 hfl
      exact ⟨a, ha, Nat.lt_of_le_of_lt (lwV_le a) hlt⟩
    · have hlt := of_decide_eq_true hfl
      have h3 := j3 b
      have h4 : lwV V b v b ≤ v := lwV_at
      exact ⟨b, hb, by omega⟩
theorem HI.mx {m0 m : Mem} {V0 V : Nat → Nat} {R : Nat → Nat → Prop} {fl : Bool} {i n : Nat} {f : Nat → Bool} {L : ArL} {w : List Nat} {δ : Nat → Nat} (h : HI m0 V0 R m V fl) (hM : MLk m0 i n f L w δ) : MLk m i n f L w δ := hM.cg (fun k a b => h.1.1 k (by omega) (by omega)) (h.1.2 2 (by simp))
/-- closed, as far as some arcs -/
def PHc (u : Bool) (L : ArL) (w : List Nat) (V : Nat → Nat) (J : Nat) : Prop := ∀ j q p r, j < J → L[j]? = some q → syW (wU u) q = 8 → p ≤ w.length → bhd u w q p = some r → V (32 * p + fr q.1) < 2000000000 → V (32 * r + too q.1) ≤ V (32 * p + fr q.1) + q.2
theorem mo_hPass {N i n : Nat} {u : Bool} {f : Nat → Bool} {L : ArL} {w : List Nat} {δ V0 : Nat → Nat} {R : Nat → Nat → Prop} {m0 : Mem} {rec : Mem → Int32 → Int32 → Int32 → Option Mem} (hN : 40000 < N) (hG : GD i n L w) (hM0 : MLk m0 i n f L w δ) (hV0 : HV m0 100 V0 R) (hR : ∀ a j c b, R a j → Eg (wU u) L w a c b 8 → R b (j + c)) :
    ∃ m' V' fl, L_X8_closesHere_15 N rec N m0 (nI i) (bI u) (nI 0) (nI (160 * i)) = rec m' (nI i) (bI u) (bI fl) ∧ HI m0 V0 R m' V' fl ∧ (fl = false → PHc u L w V0 L.length) := by
  have hG' := hG
  obtain ⟨hi, hok, hl, hn, hwl, hwx, _⟩ := hG'
  refine loopF (σ := Mem × (Nat → Nat) × Bool) (fun g x j => L_X8_closesHere_15 N rec g x.1 (nI i) (bI u) (bI x.2.2) (nI (160 * i + j))) L.length (fun j x => HI m0 V0 R x.1 x.2.1 x.2.2 ∧ (x.2.2 = false → PHc u L w V0 j)) (fun o => ∃ m' V' fl, o = rec m' (nI i) (bI u) (bI fl) ∧ HI m0 V0 R m' V' fl ∧ (fl = false → PHc u L w V0 L.length)) ?_ ?_ N 0 (m0, V0, false) (Nat.zero_le _) ⟨⟨Fx.rf, hV0, fun _ => Nat.le_refl _, fun _ => rfl, fun h => by cases h⟩, fun _ j q p r hj => absurd hj (Nat.not_lt_zero _)⟩ (by omega)
  · rintro g j ⟨m1, V1, fl⟩ hj ⟨i1, i2⟩
    have i1 : HI m0 V0 R m1 V1 fl := i1
    have i2 : fl = false → PHc u L w V0 j := i2
    have h1 := i1.mx hM0
    obtain ⟨q, hq⟩ : ∃ q, L[j]? = some q := ⟨_, List.getElem?_eq_getElem hj⟩
    have hqL := List.mem_of_getElem? hq
    have hqm := hok q hqL
    have f1 := hqm.2.1
    have t1 := hqm.2.2.1
    have hc1 := hqm.2.2.2.2.2
    have hsl := syW_le (way := wU u) hqm
    have e74 := h1.1.1.2.2.1
    left
    show ∃ s' : Mem × (Nat → Nat) × Bool, _ ∧ S_X8_closesHere_15 N rec (L_X8_closesHere_15 N rec g) m1 (nI i) (bI u) (bI fl) (nI (160 * i + j)) = _
    unfold S_X8_closesHere_15
    simp (disch := omega) only [zi_t, zi_f, bnd_t, zg_in, zx, nI_ltI, nI_leI, nI_eq, nI_add, pk_mul, pk_sub, mup_s, mup_c, mup_j, mrw_c, if_pos, if_neg, zm_1, zm_2, zm_3, zm_4, zm_5, zm_6, zm_7, zm_8, zm_9, zf_0, zf_1, zf_2, zf_3, zf_4, zf_5, zf_6, zf_7, zf_8, zf_9, zf_10, zf_14, zf_15, zf_16, zf_18, zf_19, zf_20, zf_24, zf_30, zf_31, zf_32, zf_33, zf_99, zf_100, zf_160, zf_200, zf_287, zf_288, zf_300, zf_1000, zf_1023, zf_1024, zf_1600, zf_3840, zf_25600, zf_36000, zf_1000000, zf_1000000000, zf_2000000000, zf_11560, za_1, za_2, za_4, za_5, za_6, za_7, za_8, za_9, za_10, za_11, za_12, za_14, za_15, za_22, za_23, za_25, za_26, za_27, za_28, za_29, za_30, za_31, za_32, za_33, za_34, za_35, za_41, za_42, za_43, za_44, za_45, za_46, za_47, za_48, za_49, za_61, za_62, za_63, za_64, za_65, za_71, za_72, za_73, za_74, za_75, za_76, za_77, za_78, za_79, za_80, za_81, za_82, za_83, za_84, za_85, za_86, za_87, za_88, za_89, za_90, za_91, za_92, za_93, za_94, za_95, za_96, za_97, za_98, za_99, za_100, za_101, za_102, za_103, za_104, za_105, za_106, za_107, za_108, e74]
    refine loopF (σ := Mem × (Nat → Nat) × Bool) (fun k x p => L_X8_closesHere_35 N rec (L_X8_closesHere_15 N rec g) k x.1 (nI i) (bI u) (bI x.2.2) (nI (160 * i + j)) (nI p)) (w.length + 1) (fun p x => HI m0 V0 R x.1 x.2.1 x.2.2 ∧ (x.2.2 = false → PHc u L w V0 j ∧ ∀ p' r, p' < p → bhd u w q p' = some r → V0 (32 * p' + fr q.1) < 2000000000 → V0 (32 * r + too q.1) ≤ V0 (32 * p' + fr q.1) + q.2)) (fun o => ∃ s' : Mem × (Nat → Nat) × Bool, (HI m0 V0 R s'.1 s'.2.1 s'.2.2 ∧ (s'.2.2 = false → PHc u L w V0 (j + 1))) ∧ o = L_X8_closesHere_15 N rec g s'.1 (nI i) (bI u) (bI s'.2.2) (nI (160 * i + (j + 1)))) ?_ ?_ N 0 (m1, V1, fl) (Nat.zero_le _) ⟨i1, fun hf => ⟨i2 hf, fun p' r hp' => absurd hp' (Nat.not_lt_zero _)⟩⟩ (by omega)
    · rintro k p ⟨m2, V2, fl2⟩ hp ⟨j1, j2⟩
      have j1 : HI m0 V0 R m2 V2 fl2 := j1
      have j2 : fl2 = false → PHc u L w V0 j ∧ ∀ p' r, p' < p → bhd u w q p' = some r → V0 (32 * p' + fr q.1) < 2000000000 → V0 (32 * r + too q.1) ≤ V0 (32 * p' + fr q.1) + q.2 := j2
      have h2 := j1.mx hM0
      have hp' : p ≤ w.length := by omega
      have e702 := h2.1.2.1
      have hout := mo_outOf (N := N) (u := u) h2.1.1 hi hq (by omega) hok
      have hbh := mo_behind (N := N) (u := u) h2.1 hi hq (by omega) hok hwl hwx hp'
      obtain ⟨e75, e76, e77, e78, e79⟩ := h2.1.1.2.2.2 j q hq
      by_cases c8 : syW (wU u) q = 8
      · rw [c8] at hout
        left
        show ∃ s' : Mem × (Nat → Nat) × Bool, _ ∧ S_X8_closesHere_35 N rec (L_X8_closesHere_15 N rec g) (L_X8_closesHere_35 N rec (L_X8_closesHere_15 N rec g) k) m2 (nI i) (bI u) (bI fl2) (nI (160 * i + j)) (nI p) = L_X8_closesHere_35 N rec (L_X8_closesHere_15 N rec g) k s'.1 (nI i) (bI u) (bI s'.2.2) (nI (160 * i + j)) (nI (p + 1))
        have hno : (∀ r, bhd u w q p = some r → V2 (32 * p + fr q.1) < 2000000000 → V2 (32 * r + too q.1) ≤ V2 (32 * p + fr q.1) + q.2) → HI m0 V0 R m2 V2 fl2 ∧ (fl2 = false → PHc u L w V0 j ∧ ∀ p' r, p' < p + 1 → bhd u w q p' = some r → V0 (32 * p' + fr q.1) < 2000000000 → V0 (32 * r + too q.1) ≤ V0 (32 * p' + fr q.1) + q.2) := by
          intro hh
          refine ⟨j1, fun hf => ?_⟩
          obtain ⟨y1, y2⟩ := j2 hf
          refine ⟨y1, fun p' r hp' hr hlt => ?_⟩
          by_cases e : p' = p
          · rw [e] at hr hlt ⊢
            rw [j1.2.2.2.1 hf] at hh
            exact hh r hr hlt
          · exact y2 p' r (by omega) hr hlt
        unfold S_X8_closesHere_35 B_X8_closesHere_97 B_X8_closesHere_129 B_X8_closesHere_164 B_X8_closesHere_165 B_X8_closesHere_192 B_X8_closesHere_201 B_X8_closesHere_206
        have ev := (j1.2.1 (32 * p + fr q.1) (by omega)).1
        have lv := j1.2.1.top (a := 32 * p + fr q.1) (by omega)
        cases hb : bhd u w q p with
        | none =>
          rw [hb] at hbh
          have hbh : F_X8_behind N m2 (nI (160 * i + j)) (nI p) (bI u) = some (nM, m2) := hbh
          refine ⟨(m2, V2, fl2), hno (fun r hr => by rw [hb] at hr; exact absurd hr (by simp)), ?_⟩
          simp (disch := omega) only [zi_t, zi_f, bnd_t, zg_in, zx, nI_ltI, nI_leI, nI_eq, nI_add, pk_mul, pk_sub, mup_s, mup_c, mup_j, mrw_c, if_pos, if_neg, zm_1, zm_2, zm_3, zm_4, zm_5, zm_6, zm_7, zm_8, zm_9, zf_0, zf_1, zf_2, zf_3, zf_4, zf_5, zf_6, zf_7, zf_8, zf_9, zf_10, zf_14, zf_15, zf_16, zf_18, zf_19, zf_20, zf_24, zf_30, zf_31, zf_32, zf_33, zf_99, zf_100, zf_160, zf_200, zf_287, zf_288, zf_300, zf_1000, zf_1023, zf_1024, zf_1600, zf_3840, zf_25600, zf_36000, zf_1000000, zf_1000000000, zf_2000000000, zf_11560, za_1, za_2, za_4, za_5, za_6, za_7, za_8, za_9, za_10, za_11, za_12, za_14, za_15, za_22, za_23, za_25, za_26, za_27, za_28, za_29, za_30, za_31, za_32, za_33, za_34, za_35, za_41, za_42, za_43, za_44, za_45, za_46, za_47, za_48, za_49, za_61, za_62, za_63, za_64, za_65, za_71, za_72, za_73, za_74, za_75, za_76, za_77, za_78, za_79, za_80, za_81, za_82, za_83, za_84, za_85, za_86, za_87, za_88, za_89, za_90, za_91, za_92, za_93, za_94, za_95, za_96, za_97, za_98, za_99, za_100, za_101, za_102, za_103, za_104, za_105, za_106, za_107, za_108, e702]
          rw [cal_t hout]
          simp (disch := omega) only [zi_t, zi_f, bnd_t, zg_in, zx, nI_ltI, nI_leI, nI_eq, nI_add, pk_mul, pk_sub, mup_s, mup_c, mup_j, mrw_c, if_pos, if_neg, zm_1, zm_2, zm_3, zm_4, zm_5, zm_6, zm_7, zm_8, zm_9, zf_0, zf_1, zf_2, zf_3, zf_4, zf_5, zf_6, zf_7, zf_8, zf_9, zf_10, zf_14, zf_15, zf_16, zf_18, zf_19, zf_20, zf_24, zf_30, zf_31, zf_32, zf_33, zf_99, zf_100, zf_160, zf_200, zf_287, zf_288, zf_300, zf_1000, zf_1023, zf_1024, zf_1600, zf_3840, zf_25600, zf_36000, zf_1000000, zf_1000000000, zf_2000000000, zf_11560, za_1, za_2, za_4, za_5, za_6, za_7, za_8, za_9, za_10, za_11, za_12, za_14, za_15, za_22, za_23, za_25, za_26, za_27, za_28, za_29, za_30, za_31, za_32, za_33, za_34, za_35, za_41, za_42, za_43, za_44, za_45, za_46, za_47, za_48, za_49, za_61, za_62, za_63, za_64, za_65, za_71, za_72, za_73, za_74, za_75, za_76, za_77, za_78, za_79, za_80, za_81, za_82, za_83, za_84, za_85, za_86, za_87, za_88, za_89, za_90, za_91, za_92, za_93, za_94, za_95, za_96, za_97, za_98, za_99, za_100, za_101, za_102, za_103, za_104, za_105, za_106, za_107, za_108]
          rw [cal_t hbh]
          cases fl2 <;> simp (disch := omega) only [zi_t, zi_f, bnd_t, zg_in, zx, nI_ltI, nI_leI, nI_eq, nI_add, pk_mul, pk_sub, mup_s, mup_c, mup_j, mrw_c, if_pos, if_neg, zm_1, zm_2, zm_3, zm_4, zm_5, zm_6, zm_7, zm_8, zm_9, zf_0, zf_1, zf_2, zf_3, zf_4, zf_5, zf_6, zf_7, zf_8, zf_9, zf_10, zf_14, zf_15, zf_16, zf_18, zf_19, zf_20, zf_24, zf_30, zf_31, zf_32, zf_33, zf_99, zf_100, zf_160, zf_200, zf_287, zf_288, zf_300, zf_1000, zf_1023, zf_1024, zf_1600, zf_3840, zf_25600, zf_36000, zf_1000000, zf_1000000000, zf_2000000000, zf_11560, za_1, za_2, za_4, za_5, za_6, za_7, za_8, za_9, za_10, za_11, za_12, za_14, za_15, za_22, za_23, za_25, za_26, za_27, za_28, za_29, za_30, za_31, za_32, za_33, za_34, za_35, za_41, za_42, za_43, za_44, za_45, za_46, za_47, za_48, za_49, za_61, za_62, za_63, za_64, za_65, za_71, za_72, za_73, za_74, za_75, za_76, za_77, za_78, za_79, za_80, za_81, za_82, za_83, za_84, za_85, za_86, za_87, za_88, za_89, za_90, za_91, za_92, za_93, za_94, za_95, za_96, za_97, za_98, za_99, za_100, za_101, za_102, za_103, za_104, za_105, za_106, za_107, za_108, bI_t, bI_f]
        | some r =>
          rw [hb] at hbh
          have hbh : F_X8_behind N m2 (nI (160 * i + j)) (nI p) (bI u) = some (nI r, m2) := hbh
          obtain ⟨hr, hEg, _⟩ := bhd_eg hqL hp' hb
          rw [c8] at hEg
          have eb := (j1.2.1 (32 * r + too q.1) (by omega)).1
          have lb := j1.2.1.top (a := 32 * r + too q.1) (by omega)
          by_cases cF : V2 (32 * p + fr q.1) = 2000000000
          · refine ⟨(m2, V2, fl2), hno (fun r hr hlt => by omega), ?_⟩
            rw [cF] at ev
            simp (disch := omega) only [zi_t, zi_f, bnd_t, zg_in, zx, nI_ltI, nI_leI, nI_eq, nI_add, pk_mul, pk_sub, mup_s, mup_c, mup_j, mrw_c, if_pos, if_neg, zm_1, zm_2, zm_3, zm_4, zm_5, zm_6, zm_7, zm_8, zm_9, zf_0, zf_1, zf_2, zf_3, zf_4, zf_5, zf_6, zf_7, zf_8, zf_9, zf_10, zf_14, zf_15, zf_16, zf_18, zf_19, zf_20, zf_24, zf_30, zf_31, zf_32, zf_33, zf_99, zf_100, zf_160, zf_200, zf_287, zf_288, zf_300, zf_1000, zf_1023, zf_1024, zf_1600, zf_3840, zf_25600, zf_36000, zf_1000000, zf_1000000000, zf_2000000000, zf_11560, za_1, za_2, za_4, za_5, za_6, za_7, za_8, za_9, za_10, za_11, za_12, za_14, za_15, za_22, za_23, za_25, za_26, za_27, za_28, za_29, za_30, za_31, za_32, za_33, za_34, za_35, za_41, za_42, za_43, za_44, za_45, za_46, za_47, za_48, za_49, za_61, za_62, za_63, za_64, za_65, za_71, za_72, za_73, za_74, za_75, za_76, za_77, za_78, za_79, za_80, za_81, za_82, za_83, za_84, za_85, za_86, za_87, za_88, za_89, za_90, za_91, za_92, za_93, za_94, za_95, za_96, za_97, za_98, za_99, za_100, za_101, za_102, za_103, za_104, za_105, za_106, za_107, za_108, e702]
            rw [cal_t hout]
            simp (disch := omega) only [zi_t, zi_f, bnd_t, zg_in, zx, nI_ltI, nI_leI, nI_eq, nI_add, pk_mul, pk_sub, mup_s, mup_c, mup_j, mrw_c, if_pos, if_neg, zm_1, zm_2, zm_3, zm_4, zm_5, zm_6, zm_7, zm_8, zm_9, zf_0, zf_1, zf_2, zf_3, zf_4, zf_5, zf_6, zf_7, zf_8, zf_9, zf_10, zf_14, zf_15, zf_16, zf_18, zf_19, zf_20, zf_24, zf_30, zf_31, zf_32, zf_33, zf_99, zf_100, zf_160, zf_200, zf_287, zf_288, zf_300, zf_1000, zf_1023, zf_1024, zf_1600, zf_3840, zf_25600, zf_36000, zf_1000000, zf_1000000000, zf_2000000000, zf_11560, za_1, za_2, za_4, za_5, za_6, za_7, za_8, za_9, za_10, za_11, za_12, za_14, za_15, za_22, za_23, za_25, za_26, za_27, za_28, za_29, za_30, za_31, za_32, za_33, za_34, za_35, za_41, za_42, za_43, za_44, za_45, za_46, za_47, za_48, za_49, za_61, za_62, za_63, za_64, za_65, za_71, za_72, za_73, za_74, za_75, za_76, za_77, za_78, za_79, za_80, za_81, za_82, za_83, za_84, za_85, za_86, za_87, za_88, za_89, za_90, za_91, za_92, za_93, za_94, za_95, za_96, za_97, za_98, za_99, za_100, za_101, za_102, za_103, za_104, za_105, za_106, za_107, za_108]
            rw [cal_t hbh]
            simp (disch := omega) only [zi_t, zi_f, bnd_t, zg_in, zx, nI_ltI, nI_leI, nI_eq, nI_add, pk_mul, pk_sub, mup_s, mup_c, mup_j, mrw_c, if_pos, if_neg, zm_1, zm_2, zm_3, zm_4, zm_5, zm_6, zm_7, zm_8, zm_9, zf_0, zf_1, zf_2, zf_3, zf_4, zf_5, zf_6, zf_7, zf_8, zf_9, zf_10, zf_14, zf_15, zf_16, zf_18, zf_19, zf_20, zf_24, zf_30, zf_31, zf_32, zf_33, zf_99, zf_100, zf_160, zf_200, zf_287, zf_288, zf_300, zf_1000, zf_1023, zf_1024, zf_1600, zf_3840, zf_25600, zf_36000, zf_1000000, zf_1000000000, zf_2000000000, zf_11560, za_1, za_2, za_4, za_5, za_6, za_7, za_8, za_9, za_10, za_11, za_12, za_14, za_15, za_22, za_23, za_25, za_26, za_27, za_28, za_29, za_30, za_31, za_32, za_33, za_34, za_35, za_41, za_42, za_43, za_44, za_45, za_46, za_47, za_48, za_49, za_61, za_62, za_63, za_64, za_65, za_71, za_72, za_73, za_74, za_75, za_76, za_77, za_78, za_79, za_80, za_81, za_82, za_83, za_84, za_85, za_86, za_87, za_88, za_89, za_90, za_91, za_92, za_93, za_94, za_95, za_96, za_97, za_98, za_99, za_100, za_101, za_102, za_103, za_104, za_105, za_106, za_107, za_108, e75, e79, ev, eb]
            cases fl2 <;> simp (disch := omega) only [zi_t, zi_f, bnd_t, zg_in, zx, nI_ltI, nI_leI, nI_eq, nI_add, pk_mul, pk_sub, mup_s, mup_c, mup_j, mrw_c, if_pos, if_neg, zm_1, zm_2, zm_3, zm_4, zm_5, zm_6, zm_7, zm_8, zm_9, zf_0, zf_1, zf_2, zf_3, zf_4, zf_5, zf_6, zf_7, zf_8, zf_9, zf_10, zf_14, zf_15, zf_16, zf_18, zf_19, zf_20, zf_24, zf_30, zf_31, zf_32, zf_33, zf_99, zf_100, zf_160, zf_200, zf_287, zf_288, zf_300, zf_1000, zf_1023, zf_1024, zf_1600, zf_3840, zf_25600, zf_36000, zf_1000000, zf_1000000000, zf_2000000000, zf_11560, za_1, za_2, za_4, za_5, za_6, za_7, za_8, za_9, za_10, za_11, za_12, za_14, za_15, za_22, za_23, za_25, za_26, za_27, za_28, za_29, za_30, za_31, za_32, za_33, za_34, za_35, za_41, za_42, za_43, za_44, za_45, za_46, za_47, za_48, za_49, za_61, za_62, za_63, za_64, za_65, za_71, za_72, za_73, za_74, za_75, za_76, za_77, za_78, za_79, za_80, za_81, za_82, za_83, za_84, za_85, za_86, za_87, za_88, za_89, za_90, za_91, za_92, za_93, za_94, za_95, za_96, za_97, za_98, za_99, za_100, za_101, za_102, za_103, za_104, za_105, za_106, za_107, za_108, bI_t, bI_f]
          · by_cases cl : V2 (32 * p + fr q.1) + q.2 < V2 (32 * r + too q.1)
            · have hup := j1.up (b := 32 * r + too q.1) (v := V2 (32 * p + fr q.1) + q.2) (by omega) (fun _ => hR _ _ _ _ (j1.2.1.r (by omega) (by omega)) hEg)
              rw [if_pos cl, decide_eq_true cl, Bool.or_true] at hup
              refine ⟨(mup m2 100 (32 * r + too q.1) (nI (V2 (32 * p + fr q.1) + q.2)), lwV V2 (32 * r + too q.1) (V2 (32 * p + fr q.1) + q.2), true), ⟨hup, fun hf => absurd (show true = false from hf) (by simp)⟩, ?_⟩
              simp (disch := omega) only [zi_t, zi_f, bnd_t, zg_in, zx, nI_ltI, nI_leI, nI_eq, nI_add, pk_mul, pk_sub, mup_s, mup_c, mup_j, mrw_c, if_pos, if_neg, zm_1, zm_2, zm_3, zm_4, zm_5, zm_6, zm_7, zm_8, zm_9, zf_0, zf_1, zf_2, zf_3, zf_4, zf_5, zf_6, zf_7, zf_8, zf_9, zf_10, zf_14, zf_15, zf_16, zf_18, zf_19, zf_20, zf_24, zf_30, zf_31, zf_32, zf_33, zf_99, zf_100, zf_160, zf_200, zf_287, zf_288, zf_300, zf_1000, zf_1023, zf_1024, zf_1600, zf_3840, zf_25600, zf_36000, zf_1000000, zf_1000000000, zf_2000000000, zf_11560, za_1, za_2, za_4, za_5, za_6, za_7, za_8, za_9, za_10, za_11, za_12, za_14, za_15, za_22, za_23, za_25, za_26, za_27, za_28, za_29, za_30, za_31, za_32, za_33, za_34, za_35, za_41, za_42, za_43, za_44, za_45, za_46, za_47, za_48, za_49, za_61, za_62, za_63, za_64, za_65, za_71, za_72, za_73, za_74, za_75, za_76, za_77, za_78, za_79, za_80, za_81, za_82, za_83, za_84, za_85, za_86, za_87, za_88, za_89, za_90, za_91, za_92, za_93, za_94, za_95, za_96, za_97, za_98, za_99, za_100, za_101, za_102, za_103, za_104, za_105, za_106, za_107, za_108, e702]
              rw [cal_t hout]
              simp (disch := omega) only [zi_t, zi_f, bnd_t, zg_in, zx, nI_ltI, nI_leI, nI_eq, nI_add, pk_mul, pk_sub, mup_s, mup_c, mup_j, mrw_c, if_pos, if_neg, zm_1, zm_2, zm_3, zm_4, zm_5, zm_6, zm_7, zm_8, zm_9, zf_0, zf_1, zf_2, zf_3, zf_4, zf_5, zf_6, zf_7, zf_8, zf_9, zf_10, zf_14, zf_15, zf_16, zf_18, zf_19, zf_20, zf_24, zf_30, zf_31, zf_32, zf_33, zf_99, zf_100, zf_160, zf_200, zf_287, zf_288, zf_300, zf_1000, zf_1023, zf_1024, zf_1600, zf_3840, zf_25600, zf_36000, zf_1000000, zf_1000000000, zf_2000000000, zf_11560, za_1, za_2, za_4, za_5, za_6, za_7, za_8, za_9, za_10, za_11, za_12, za_14, za_15, za_22, za_23, za_25, za_26, za_27, za_28, za_29, za_30, za_31, za_32, za_33, za_34, za_35, za_41, za_42, za_43, za_44, za_45, za_46, za_47, za_48, za_49, za_61, za_62, za_63, za_64, za_65, za_71, za_72, za_73, za_74, za_75, za_76, za_77, za_78, za_79, za_80, za_81, za_82, za_83, za_84, za_85, za_86, za_87, za_88, za_89, za_90, za_91, za_92, za_93, za_94, za_95, za_96, za_97, za_98, za_99, za_100, za_101, za_102, za_103, za_104, za_105, za_106, za_107, za_108]
              rw [cal_t hbh]
              simp (disch := omega) only [zi_t, zi_f, bnd_t, zg_in, zx, nI_ltI, nI_leI, nI_eq, nI_add, pk_mul, pk_sub, mup_s, mup_c, mup_j, mrw_c, if_pos, if_neg, zm_1, zm_2, zm_3, zm_4, zm_5, zm_6, zm_7, zm_8, zm_9, zf_0, zf_1, zf_2, zf_3, zf_4, zf_5, zf_6, zf_7, zf_8, zf_9, zf_10, zf_14, zf_15, zf_16, zf_18, zf_19, zf_20, zf_24, zf_30, zf_31, zf_32, zf_33, zf_99, zf_100, zf_160, zf_200, zf_287, zf_288, zf_300, zf_1000, zf_1023, zf_1024, zf_1600, zf_3840, zf_25600, zf_36000, zf_1000000, zf_1000000000, zf_2000000000, zf_11560, za_1, za_2, za_4, za_5, za_6, za_7, za_8, za_9, za_10, za_11, za_12, za_14, za_15, za_22, za_23, za_25, za_26, za_27, za_28, za_29, za_30, za_31, za_32, za_33, za_34, za_35, za_41, za_42, za_43, za_44, za_45, za_46, za_47, za_48, za_49, za_61, za_62, za_63, za_64, za_65, za_71, za_72, za_73, za_74, za_75, za_76, za_77, za_78, za_79, za_80, za_81, za_82, za_83, za_84, za_85, za_86, za_87, za_88, za_89, za_90, za_91, za_92, za_93, za_94, za_95, za_96, za_97, za_98, za_99, za_100, za_101, za_102, za_103, za_104, za_105, za_106, za_107, za_108, e75, e78, e79, ev, eb]
              cases fl2 <;> simp (disch := omega) only [zi_t, zi_f, bnd_t, zg_in, zx, nI_ltI, nI_leI, nI_eq, nI_add, pk_mul, pk_sub, mup_s, mup_c, mup_j, mrw_c, if_pos, if_neg, zm_1, zm_2, zm_3, zm_4, zm_5, zm_6, zm_7, zm_8, zm_9, zf_0, zf_1, zf_2, zf_3, zf_4, zf_5, zf_6, zf_7, zf_8, zf_9, zf_10, zf_14, zf_15, zf_16, zf_18, zf_19, zf_20, zf_24, zf_30, zf_31, zf_32, zf_33, zf_99, zf_100, zf_160, zf_200, zf_287, zf_288, zf_300, zf_1000, zf_1023, zf_1024, zf_1600, zf_3840, zf_25600, zf_36000, zf_1000000, zf_1000000000, zf_2000000000, zf_11560, za_1, za_2, za_4, za_5, za_6, za_7, za_8, za_9, za_10, za_11, za_12, za_14, za_15, za_22, za_23, za_25, za_26, za_27, za_28, za_29, za_30, za_31, za_32, za_33, za_34, za_35, za_41, za_42, za_43, za_44, za_45, za_46, za_47, za_48, za_49, za_61, za_62, za_63, za_64, za_65, za_71, za_72, za_73, za_74, za_75, za_76, za_77, za_78, za_79, za_80, za_81, za_82, za_83, za_84, za_85, za_86, za_87, za_88, za_89, za_90, za_91, za_92, za_93, za_94, za_95, za_96, za_97, za_98, za_99, za_100, za_101, za_102, za_103, za_104, za_105, za_106, za_107, za_108, bI_t, bI_f]
            · refine ⟨(m2, V2, fl2), hno (fun r' hr' hlt => by
                rw [hb] at hr'
                have e := Option.some.inj hr'
                subst e
                omega), ?_⟩
              simp (disch := omega) only [zi_t, zi_f, bnd_t, zg_in, zx, nI_ltI, nI_leI, nI_eq, nI_add, pk_mul, pk_sub, mup_s, mup_c, mup_j, mrw_c, if_pos, if_neg, zm_1, zm_2, zm_3, zm_4, zm_5, zm_6, zm_7, zm_8, zm_9, zf_0, zf_1, zf_2, zf_3, zf_4, zf_5, zf_6, zf_7, zf_8, zf_9, zf_10, zf_14, zf_15, zf_16, zf_18, zf_19, zf_20, zf_24, zf_30, zf_31, zf_32, zf_33, zf_99, zf_100, zf_160, zf_200, zf_287, zf_288, zf_300, zf_1000, zf_1023, zf_1024, zf_1600, zf_3840, zf_25600, zf_36000, zf_1000000, zf_1000000000, zf_2000000000, zf_11560, za_1, za_2, za_4, za_5, za_6, za_7, za_8, za_9, za_10, za_11, za_12, za_14, za_15, za_22, za_23, za_25, za_26, za_27, za_28, za_29, za_30, za_31, za_32, za_33, za_34, za_35, za_41, za_42, za_43, za_44, za_45, za_46, za_47, za_48, za_49, za_61, za_62, za_63, za_64, za_65, za_71, za_72, za_73, za_74, za_75, za_76, za_77, za_78, za_79, za_80, za_81, za_82, za_83, za_84, za_85, za_86, za_87, za_88, za_89, za_90, za_91, za_92, za_93, za_94, za_95, za_96, za_97, za_98, za_99, za_100, za_101, za_102, za_103, za_104, za_105, za_106, za_107, za_108, e702]
              rw [cal_t hout]
              simp (disch := omega) only [zi_t, zi_f, bnd_t, zg_in, zx, nI_ltI, nI_leI, nI_eq, nI_add, pk_mul, pk_sub, mup_s, mup_c, mup_j, mrw_c, if_pos, if_neg, zm_1, zm_2, zm_3, zm_4, zm_5, zm_6, zm_7, zm_8, zm_9, zf_0, zf_1, zf_2, zf_3, zf_4, zf_5, zf_6, zf_7, zf_8, zf_9, zf_10, zf_14, zf_15, zf_16, zf_18, zf_19, zf_20, zf_24, zf_30, zf_31, zf_32, zf_33, zf_99, zf_100, zf_160, zf_200, zf_287, zf_288, zf_300, zf_1000, zf_1023, zf_1024, zf_1600, zf_3840, zf_25600, zf_36000, zf_1000000, zf_1000000000, zf_2000000000, zf_11560, za_1, za_2, za_4, za_5, za_6, za_7, za_8, za_9, za_10, za_11, za_12, za_14, za_15, za_22, za_23, za_25, za_26, za_27, za_28, za_29, za_30, za_31, za_32, za_33, za_34, za_35, za_41, za_42, za_43, za_44, za_45, za_46, za_47, za_48, za_49, za_61, za_62, za_63, za_64, za_65, za_71, za_72, za_73, za_74, za_75, za_76, za_77, za_78, za_79, za_80, za_81, za_82, za_83, za_84, za_85, za_86, za_87, za_88, za_89, za_90, za_91, za_92, za_93, za_94, za_95, za_96, za_97, za_98, za_99, za_100, za_101, za_102, za_103, za_104, za_105, za_106, za_107, za_108]
              rw [cal_t hbh]
              simp (disch := omega) only [zi_t, zi_f, bnd_t, zg_in, zx, nI_ltI, nI_leI, nI_eq, nI_add, pk_mul, pk_sub, mup_s, mup_c, mup_j, mrw_c, if_pos, if_neg, zm_1, zm_2, zm_3, zm_4, zm_5, zm_6, zm_7, zm_8, zm_9, zf_0, zf_1, zf_2, zf_3, zf_4, zf_5, zf_6, zf_7, zf_8, zf_9, zf_10, zf_14, zf_15, zf_16, zf_18, zf_19, zf_20, zf_24, zf_30, zf_31, zf_32, zf_33, zf_99, zf_100, zf_160, zf_200, zf_287, zf_288, zf_300, zf_1000, zf_1023, zf_1024, zf_1600, zf_3840, zf_25600, zf_36000, zf_1000000, zf_1000000000, zf_2000000000, zf_11560, za_1, za_2, za_4, za_5, za_6, za_7, za_8, za_9, za_10, za_11, za_12, za_14, za_15, za_22, za_23, za_25, za_26, za_27, za_28, za_29, za_30, za_31, za_32, za_33, za_34, za_35, za_41, za_42, za_43, za_44, za_45, za_46, za_47, za_48, za_49, za_61, za_62, za_63, za_64, za_65, za_71, za_72, za_73, za_74, za_75, za_76, za_77, za_78, za_79, za_80, za_81, za_82, za_83, za_84, za_85, za_86, za_87, za_88, za_89, za_90, za_91, za_92, za_93, za_94, za_95, za_96, za_97, za_98, za_99, za_100, za_101, za_102, za_103, za_104, za_105, za_106, za_107, za_108, e75, e78, e79, ev, eb]
              cases fl2 <;> simp (disch := omega) only [zi_t, zi_f, bnd_t, zg_in, zx, nI_ltI, nI_leI, nI_eq, nI_add, pk_mul, pk_sub, mup_s, mup_c, mup_j, mrw_c, if_pos, if_neg, zm_1, zm_2, zm_3, zm_4, zm_5, zm_6, zm_7, zm_8, zm_9, zf_0, zf_1, zf_2, zf_3, zf_4, zf_5, zf_6, zf_7, zf_8, zf_9, zf_10, zf_14, zf_15, zf_16, zf_18, zf_19, zf_20, zf_24, zf_30, zf_31, zf_32, zf_33, zf_99, zf_100, zf_160, zf_200, zf_287, zf_288, zf_300, zf_1000, zf_1023, zf_1024, zf_1600, zf_3840, zf_25600, zf_36000, zf_1000000, zf_1000000000, zf_2000000000, zf_11560, za_1, za_2, za_4, za_5, za_6, za_7, za_8, za_9, za_10, za_11, za_12, za_14, za_15, za_22, za_23, za_25, za_26, za_27, za_28, za_29, za_30, za_31, za_32, za_33, za_34, za_35, za_41, za_42, za_43, za_44, za_45, za_46, za_47, za_48, za_49, za_61, za_62, za_63, za_64, za_65, za_71, za_72, za_73, za_74, za_75, za_76, za_77, za_78, za_79, za_80, za_81, za_82, za_83, za_84, za_85, za_86, za_87, za_88, za_89, za_90, za_91, za_92, za_93, za_94, za_95, za_96, za_97, za_98, za_99, za_100, za_101, za_102, za_103, za_104, za_105, za_106, za_107, za_108, bI_t, bI_f]
      · right
        show ∃ s' : Mem × (Nat → Nat) × Bool, _ ∧ S_X8_closesHere_35 N rec (L_X8_closesHere_15 N rec g) (L_X8_closesHere_35 N rec (L_X8_closesHere_15 N rec g) k) m2 (nI i) (bI u) (bI fl2) (nI (160 * i + j)) (nI p) = _
        refine ⟨(m2, V2, fl2), ⟨j1, fun hf j' q' p' r hj' hq' hs' hp' hr hlt => ?_⟩, ?_⟩
        · obtain ⟨y1, y2⟩ := j2 hf
          by_cases e : j' = j
          · rw [e, hq] at hq'
            have e2 := Option.some.inj hq'
            rw [← e2] at hs'
            exact absurd hs' c8
          · exact y1 j' q' p' r (by omega) hq' hs' hp' hr hlt
        · unfold S_X8_closesHere_35 B_X8_closesHere_213
          simp (disch := omega) only [zi_t, zi_f, bnd_t, zg_in, zx, nI_ltI, nI_leI, nI_eq, nI_add, pk_mul, pk_sub, mup_s, mup_c, mup_j, mrw_c, if_pos, if_neg, zm_1, zm_2, zm_3, zm_4, zm_5, zm_6, zm_7, zm_8, zm_9, zf_0, zf_1, zf_2, zf_3, zf_4, zf_5, zf_6, zf_7, zf_8, zf_9, zf_10, zf_14, zf_15, zf_16, zf_18, zf_19, zf_20, zf_24, zf_30, zf_31, zf_32, zf_33, zf_99, zf_100, zf_160, zf_200, zf_287, zf_288, zf_300, zf_1000, zf_1023, zf_1024, zf_1600, zf_3840, zf_25600, zf_36000, zf_1000000, zf_1000000000, zf_2000000000, zf_11560, za_1, za_2, za_4, za_5, za_6, za_7, za_8, za_9, za_10, za_11, za_12, za_14, za_15, za_22, za_23, za_25, za_26, za_27, za_28, za_29, za_30, za_31, za_32, za_33, za_34, za_35, za_41, za_42, za_43, za_44, za_45, za_46, za_47, za_48, za_49, za_61, za_62, za_63, za_64, za_65, za_71, za_72, za_73, za_74, za_75, za_76, za_77, za_78, za_79, za_80, za_81, za_82, za_83, za_84, za_85, za_86, za_87, za_88, za_89, za_90, za_91, za_92, za_93, za_94, za_95, za_96, za_97, za_98, za_99, za_100, za_101, za_102, za_103, za_104, za_105, za_106, za_107, za_108, e702]
          rw [cal_t hout]
          simp (disch := omega) only [zi_t, zi_f, bnd_t, zg_in, zx, nI_ltI, nI_leI, nI_eq, nI_add, pk_mul, pk_sub, mup_s, mup_c, mup_j, mrw_c, if_pos, if_neg, zm_1, zm_2, zm_3, zm_4, zm_5, zm_6, zm_7, zm_8, zm_9, zf_0, zf_1, zf_2, zf_3, zf_4, zf_5, zf_6, zf_7, zf_8, zf_9, zf_10, zf_14, zf_15, zf_16, zf_18, zf_19, zf_20, zf_24, zf_30, zf_31, zf_32, zf_33, zf_99, zf_100, zf_160, zf_200, zf_287, zf_288, zf_300, zf_1000, zf_1023, zf_1024, zf_1600, zf_3840, zf_25600, zf_36000, zf_1000000, zf_1000000000, zf_2000000000, zf_11560, za_1, za_2, za_4, za_5, za_6, za_7, za_8, za_9, za_10, za_11, za_12, za_14, za_15, za_22, za_23, za_25, za_26, za_27, za_28, za_29, za_30, za_31, za_32, za_33, za_34, za_35, za_41, za_42, za_43, za_44, za_45, za_46, za_47, za_48, za_49, za_61, za_62, za_63, za_64, za_65, za_71, za_72, za_73, za_74, za_75, za_76, za_77, za_78, za_79, za_80, za_81, za_82, za_83, za_84, za_85, za_86, za_87, za_88, za_89, za_90, za_91, za_92, za_93, za_94, za_95, za_96, za_97, za_98, za_99, za_100, za_101, za_102, za_103, za_104, za_105, za_106, za_107, za_108]
          rfl
    · rintro k ⟨m2, V2, fl2⟩ ⟨j1, j2⟩
      have j1 : HI m0 V0 R m2 V2 fl2 := j1
      have h2 := j1.mx hM0
      have e702 := h2.1.2.1
      refine ⟨(m2, V2, fl2), ⟨j1, fun hf j' q' p' r hj' hq' hs' hp' hr hlt => ?_⟩, ?_⟩
      · obtain ⟨y1, y2⟩ := j2 hf
        by_cases e : j' = j
        · rw [e, hq] at hq'
          have e2 := Option.some.inj hq'
          subst e2
          exact y2 p' r (by omega) hr hlt
        · exact y1 j' q' p' r (by omega) hq' hs' hp' hr hlt
      · show S_X8_closesHere_35 N rec (L_X8_closesHere_15 N rec g) (L_X8_closesHere_35 N rec (L_X8_closesHere_15 N rec g) k) m2 (nI i) (bI u) (bI fl2) (nI (160 * i + j)) (nI (w.length + 1)) = _
        unfold S_X8_closesHere_35 B_X8_closesHere_213
        simp (disch := omega) only [zi_t, zi_f, bnd_t, zg_in, zx, nI_ltI, nI_leI, nI_eq, nI_add, pk_mul, pk_sub, mup_s, mup_c, mup_j, mrw_c, if_pos, if_neg, zm_1, zm_2, zm_3, zm_4, zm_5, zm_6, zm_7, zm_8, zm_9, zf_0, zf_1, zf_2, zf_3, zf_4, zf_5, zf_6, zf_7, zf_8, zf_9, zf_10, zf_14, zf_15, zf_16, zf_18, zf_19, zf_20, zf_24, zf_30, zf_31, zf_32, zf_33, zf_99, zf_100, zf_160, zf_200, zf_287, zf_288, zf_300, zf_1000, zf_1023, zf_1024, zf_1600, zf_3840, zf_25600, zf_36000, zf_1000000, zf_1000000000, zf_2000000000, zf_11560, za_1, za_2, za_4, za_5, za_6, za_7, za_8, za_9, za_10, za_11, za_12, za_14, za_15, za_22, za_23, za_25, za_26, za_27, za_28, za_29, za_30, za_31, za_32, za_33, za_34, za_35, za_41, za_42, za_43, za_44, za_45, za_46, za_47, za_48, za_49, za_61, za_62, za_63, za_64, za_65, za_71, za_72, za_73, za_74, za_75, za_76, za_77, za_78, za_79, za_80, za_81, za_82, za_83, za_84, za_85, za_86, za_87, za_88, za_89, za_90, za_91, za_92, za_93, za_94, za_95, za_96, za_97, za_98, za_99, za_100, za_101, za_102, za_103, za_104, za_105, za_106, za_107, za_108, e702]
        rfl
  · rintro g ⟨m1, V1, fl⟩ ⟨i1, i2⟩
    have i1 : HI m0 V0 R m1 V1 fl := i1
    have h1 := i1.mx hM0
    have e74 := h1.1.1.2.2.1
    refine ⟨m1, V1, fl, ?_, i1, i2⟩
    show S_X8_closesHere_15 N rec (L_X8_closesHere_15 N rec g) m1 (nI i) (bI u) (bI fl) (nI (160 * i + L.length)) = _
    unfold S_X8_closesHere_15
    simp (disch := omega) only [zi_t, zi_f, bnd_t, zg_in, zx, nI_ltI, nI_leI, nI_eq, nI_add, pk_mul, pk_sub, mup_s, mup_c, mup_j, mrw_c, if_pos, if_neg, zm_1, zm_2, zm_3, zm_4, zm_5, zm_6, zm_7, zm_8, zm_9, zf_0, zf_1, zf_2, zf_3, zf_4, zf_5, zf_6, zf_7, zf_8, zf_9, zf_10, zf_14, zf_15, zf_16, zf_18, zf_19, zf_20, zf_24, zf_30, zf_31, zf_32, zf_33, zf_99, zf_100, zf_160, zf_200, zf_287, zf_288, zf_300, zf_1000, zf_1023, zf_1024, zf_1600, zf_3840, zf_25600, zf_36000, zf_1000000, zf_1000000000, zf_2000000000, zf_11560, za_1, za_2, za_4, za_5, za_6, za_7, za_8, za_9, za_10, za_11, za_12, za_14, za_15, za_22, za_23, za_25, za_26, za_27, za_28, za_29, za_30, za_31, za_32, za_33, za_34, za_35, za_41, za_42, za_43, za_44, za_45, za_46, za_47, za_48, za_49, za_61, za_62, za_63, za_64, za_65, za_71, za_72, za_73, za_74, za_75, za_76, za_77, za_78, za_79, za_80, za_81, za_82, za_83, za_84, za_85, za_86, za_87, za_88, za_89, za_90, za_91, za_92, za_93, za_94, za_95, za_96, za_97, za_98, za_99, za_100, za_101, za_102, za_103, za_104, za_105, za_106, za_107, za_108, e74]
/-- a while that lessens a table -/
theorem hv_while {N : Nat} {β : Type} {m0 : Mem} {V0 : Nat → Nat} {R : Nat → Nat → Prop} {Q : Option β → Prop} {Cl : (Nat → Nat) → Prop} (hN : 2000000000000 < N) (h0 : HV m0 100 V0 R) (Lp : Nat → Mem → Bool → Option β)
    (step : ∀ g m V, Fx 100 101 [] m0 m → HV m 100 V R → ∃ m' V' fl, Lp (g + 1) m true = Lp g m' fl ∧ HI m V R m' V' fl ∧ (fl = false → Cl V))
    (done : ∀ g m V, Fx 100 101 [] m0 m → HV m 100 V R → (∀ a, V a ≤ V0 a) → Cl V → Q (Lp (g + 1) m false)) : Q (Lp N m0 true) := by
  have h288 : smV V0 288 ≤ 2000000000 * 288 := smV_bd 288 (fun a ha => h0.top ha)
  refine loopW (σ := Mem × (Nat → Nat) × Bool) (fun g x => Lp g x.1 x.2.2) (fun x => Fx 100 101 [] m0 x.1 ∧ HV x.1 100 x.2.1 R ∧ (∀ a, x.2.1 a ≤ V0 a) ∧ (x.2.2 = false → Cl x.2.1)) (fun x => 2 * smV x.2.1 288 + if x.2.2 = true then 1 else 0) Q ?_ N (m0, V0, true) ⟨Fx.rf, h0, fun _ => Nat.le_refl _, fun h => by cases h⟩ (by show 2 * smV V0 288 + 1 < N; omega)
  rintro g ⟨m, V, fl⟩ ⟨i1, i2, i3, i4⟩
  have i1 : Fx 100 101 [] m0 m := i1
  have i2 : HV m 100 V R := i2
  have i3 : ∀ a, V a ≤ V0 a := i3
  have i4 : fl = false → Cl V := i4
  cases fl with
  | false =>
    right
    exact done g m V i1 i2 i3 (i4 rfl)
  | true =>
    left
    obtain ⟨m', V', fl, s1, ⟨s2, s3, s4, s5, s6⟩, s7⟩ := step g m V i1 i2
    refine ⟨(m', V', fl), ⟨i1.tr s2, s3, fun a => Nat.le_trans (s4 a) (i3 a), fun hf => ?_⟩, ?_, s1⟩
    · have hf : fl = false := hf
      show Cl V'
      rw [s5 hf]
      exact s7 hf
    · show 2 * smV V' 288 + (if fl = true then 1 else 0) < 2 * smV V 288 + (if true = true then 1 else 0)
      rw [if_pos (show true = true from rfl)]
      cases fl with
      | false => rw [s5 rfl, if_neg (by simp)]; omega
      | true =>
        obtain ⟨a, ha, hlt⟩ := s6 rfl
        have := smV_lt s4 hlt 288 ha
        rw [if_pos rfl]
        omega
theorem mo_closesHere {N i n : Nat} {u : Bool} {f : Nat → Bool} {L : ArL} {w : List Nat} {δ V0 : Nat → Nat} {R : Nat → Nat → Prop} {m0 : Mem} (hN : 2000000000000 < N) (hG : GD i n L w) (hM0 : MLk m0 i n f L w δ) (hV0 : HV m0 100 V0 R) (hR : ∀ a j c b, R a j → Eg (wU u) L w a c b 8 → R b (j + c)) :
    ∃ m' V', F_X8_closesHere N m0 (nI i) (bI u) = some m' ∧ Fx 100 101 [] m0 m' ∧ HV m' 100 V' R ∧ (∀ a, V' a ≤ V0 a) ∧ ∀ a c b, Eg (wU u) L w a c b 8 → V' a < 2000000000 → V' b ≤ V' a + c := by
  unfold F_X8_closesHere
  refine hv_while (N := N) (Q := fun o => ∃ m' V', o = some m' ∧ Fx 100 101 [] m0 m' ∧ HV m' 100 V' R ∧ (∀ a, V' a ≤ V0 a) ∧ ∀ a c b, Eg (wU u) L w a c b 8 → V' a < 2000000000 → V' b ≤ V' a + c) (Cl := fun V => PHc u L w V L.length) hN hV0 (fun g m b => L_X8_closesHere_2 N g m (nI i) (bI u) (bI b)) ?_ ?_
  · intro g m V h1 h2
    obtain ⟨m', V', fl, s1, s2, s3⟩ := mo_hPass (N := N) (rec := L_X8_closesHere_2 N g) (by omega) hG (hM0.cg (fun k a b => h1.1 k (by omega) (by omega)) (h1.2 2 (by simp))) h2 hR
    refine ⟨m', V', fl, ?_, s2, s3⟩
    show S_X8_closesHere_2 N (L_X8_closesHere_2 N g) m (nI i) (bI u) (bI true) = _
    unfold S_X8_closesHere_2
    simp (disch := omega) only [zi_t, zi_f, bnd_t, zg_in, zx, nI_ltI, nI_leI, nI_eq, nI_add, pk_mul, pk_sub, mup_s, mup_c, mup_j, mrw_c, if_pos, if_neg, zm_1, zm_2, zm_3, zm_4, zm_5, zm_6, zm_7, zm_8, zm_9, zf_0, zf_1, zf_2, zf_3, zf_4, zf_5, zf_6, zf_7, zf_8, zf_9, zf_10, zf_14, zf_15, zf_16, zf_18, zf_19, zf_20, zf_24, zf_30, zf_31, zf_32, zf_33, zf_99, zf_100, zf_160, zf_200, zf_287, zf_288, zf_300, zf_1000, zf_1023, zf_1024, zf_1600, zf_3840, zf_25600, zf_36000, zf_1000000, zf_1000000000, zf_2000000000, zf_11560, za_1, za_2, za_4, za_5, za_6, za_7, za_8, za_9, za_10, za_11, za_12, za_14, za_15, za_22, za_23, za_25, za_26, za_27, za_28, za_29, za_30, za_31, za_32, za_33, za_34, za_35, za_41, za_42, za_43, za_44, za_45, za_46, za_47, za_48, za_49, za_61, za_62, za_63, za_64, za_65, za_71, za_72, za_73, za_74, za_75, za_76, za_77, za_78, za_79, za_80, za_81, za_82, za_83, za_84, za_85, za_86, za_87, za_88, za_89, za_90, za_91, za_92, za_93, za_94, za_95, za_96, za_97, za_98, za_99, za_100, za_101, za_102, za_103, za_104, za_105, za_106, za_107, za_108, bI_t]
    exact s1
  · intro g m V h1 h2 h3 h4
    refine ⟨m, V, ?_, h1, h2, h3, fun a c b hE hlt => ?_⟩
    · show S_X8_closesHere_2 N (L_X8_closesHere_2 N g) m (nI i) (bI u) (bI false) = _
      unfold S_X8_closesHere_2
      simp (disch := omega) only [zi_t, zi_f, bnd_t, zg_in, zx, nI_ltI, nI_leI, nI_eq, nI_add, pk_mul, pk_sub, mup_s, mup_c, mup_j, mrw_c, if_pos, if_neg, zm_1, zm_2, zm_3, zm_4, zm_5, zm_6, zm_7, zm_8, zm_9, zf_0, zf_1, zf_2, zf_3, zf_4, zf_5, zf_6, zf_7, zf_8, zf_9, zf_10, zf_14, zf_15, zf_16, zf_18, zf_19, zf_20, zf_24, zf_30, zf_31, zf_32, zf_33, zf_99, zf_100, zf_160, zf_200, zf_287, zf_288, zf_300, zf_1000, zf_1023, zf_1024, zf_1600, zf_3840, zf_25600, zf_36000, zf_1000000, zf_1000000000, zf_2000000000, zf_11560, za_1, za_2, za_4, za_5, za_6, za_7, za_8, za_9, za_10, za_11, za_12, za_14, za_15, za_22, za_23, za_25, za_26, za_27, za_28, za_29, za_30, za_31, za_32, za_33, za_34, za_35, za_41, za_42, za_43, za_44, za_45, za_46, za_47, za_48, za_49, za_61, za_62, za_63, za_64, za_65, za_71, za_72, za_73, za_74, za_75, za_76, za_77, za_78, za_79, za_80, za_81, za_82, za_83, za_84, za_85, za_86, za_87, za_88, za_89, za_90, za_91, za_92, za_93, za_94, za_95, za_96, za_97, za_98, za_99, za_100, za_101, za_102, za_103, za_104, za_105, za_106, za_107, za_108, bI_f]
    · obtain ⟨p, q, r, hp, hq, hr, ea, eb, ex, ec⟩ := eg_bhd hE
      obtain ⟨j, hj⟩ := List.getElem?_of_mem hq
      rw [ea] at hlt ⊢
      rw [eb, ec]
      exact h4 j q p r (List.getElem?_eq_some_iff.mp hj).1 hj ex.symm hp hr hlt
