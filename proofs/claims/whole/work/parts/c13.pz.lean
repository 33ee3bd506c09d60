/-! the model lets go on what is here, by changes -/
theorem eg_skip {L : ArL} {w : List Nat} {c : Nat} (hc : c < 32 * w.length) : Eg 2 L w c 1 (c + 32) 8 := by
  refine ⟨c / 32, by omega, Or.inr (Or.inr ⟨c % 32, by omega, ?_, by omega, by omega, rfl⟩)⟩
  unfold cSk
  rw [if_pos ⟨rfl, by omega⟩]
theorem eg_emp {L : ArL} {w : List Nat} {q : Nat × Nat} {p : Nat} (hq : q ∈ L) (hp : p ≤ w.length) (h8 : upr q.1 = 8) : Eg 2 L w (32 * p + fr q.1) 0 (32 * p + too q.1) 8 := by
  refine ⟨p, hp, Or.inl ⟨q, hq, ?_, rfl, rfl, h8.symm⟩⟩
  show some (if upr q.1 = 8 then 0 else 1) = some 0
  rw [if_pos h8]
def KSc (w : List Nat) (V : Nat → Nat) (J : Nat) : Prop := ∀ c, c < J → c < 32 * w.length → V c < 2000000000 → V (c + 32) ≤ V c + 1
def PKc (L : ArL) (w : List Nat) (V : Nat → Nat) (J : Nat) : Prop := ∀ j q p, j < J → L[j]? = some q → upr q.1 = 8 → p ≤ w.length → V (32 * p + too q.1) ≤ V (32 * p + fr q.1)
theorem mo_kSkips {N i n : Nat} {f : Nat → Bool} {L : ArL} {w : List Nat} {δ V0 : Nat → Nat} {R : Nat → Nat → Prop} {m0 : Mem} {rec : Mem → Int32 → Int32 → Option Mem} (hN : 40000 < N) (hG : GD i n L w) (hM0 : MLk m0 i n f L w δ) (hV0 : HV m0 100 V0 R) (hR : ∀ a j c b, R a j → Eg 2 L w a c b 8 → R b (j + c)) :
    ∃ m V fl, L_X8_closesChanges_10 N rec N m0 (nI i) (nI 0) (nI 0) = L_X8_closesChanges_93 N rec N m (nI i) (bI fl) (nI (160 * i)) ∧ HI m0 V0 R m V fl ∧ (fl = false → KSc w V0 (32 * w.length)) := by
  have hG' := hG
  obtain ⟨hi, hok, hl, hn, hwl, hwx, _⟩ := hG'
  refine loopF (σ := Mem × (Nat → Nat) × Bool) (fun g x c => L_X8_closesChanges_10 N rec g x.1 (nI i) (bI x.2.2) (nI c)) (32 * w.length) (fun c x => HI m0 V0 R x.1 x.2.1 x.2.2 ∧ (x.2.2 = false → KSc w V0 c)) (fun o => ∃ m V fl, o = L_X8_closesChanges_93 N rec N m (nI i) (bI fl) (nI (160 * i)) ∧ HI m0 V0 R m V fl ∧ (fl = false → KSc w V0 (32 * w.length))) ?_ ?_ N 0 (m0, V0, false) (Nat.zero_le _) ⟨⟨Fx.rf, hV0, fun _ => Nat.le_refl _, fun _ => rfl, fun h => by cases h⟩, fun _ c hc => absurd hc (Nat.not_lt_zero _)⟩ (by omega)
  · rintro g c ⟨m, V, fl⟩ hc ⟨j1, j2⟩
    have j1 : HI m0 V0 R m V fl := j1
    have j2 : fl = false → KSc w V0 c := j2
    have e702 : m 70 2 = nI w.length := (j1.mx hM0).1.2.1
    have hb := j1.2.1.top (a := c + 32) (by omega)
    have ha := j1.2.1.top (a := c) (by omega)
    have eb := (j1.2.1 (c + 32) (by omega)).1
    have ea := (j1.2.1 c (by omega)).1
    have hpl := mo_plus (N := N) (m := m) (k := 1) ha (by omega)
    obtain ⟨v, hv⟩ : ∃ v, v = plN (V c) 1 := ⟨_, rfl⟩
    rw [← hv] at hpl
    have hvl : v ≤ 2000000001 := by rw [hv]; unfold plN; split <;> omega
    have hle := mo_lesser (a := v) (b := V (c + 32)) (by omega) (by omega)
    rw [les_eq] at hle
    have hwy : v < V (c + 32) → R (c + 32) v := by
      intro hlt
      have hl2 : v < 2000000000 := by omega
      rw [hv] at hl2
      obtain ⟨x1, x2⟩ := plN_lt hl2
      have := hR _ _ _ _ (j1.2.1.r (a := c) (by omega) (by omega)) (eg_skip (L := L) hc)
      rw [hv, x2]
      exact this
    have hup := j1.up (b := c + 32) (v := v) (by omega) hwy
    left
    show ∃ s' : Mem × (Nat → Nat) × Bool, _ ∧ S_X8_closesChanges_10 N rec (L_X8_closesChanges_10 N rec g) m (nI i) (bI fl) (nI c) = _
    refine ⟨(mup m 100 (c + 32) (nI (if v < V (c + 32) then v else V (c + 32))), lwV V (c + 32) v, fl || decide (v < V (c + 32))), ⟨hup, fun hf c' hc' hcw hlt => ?_⟩, ?_⟩
    · have hf : (fl || decide (v < V (c + 32))) = false := hf
      rw [Bool.or_eq_false_iff] at hf
      by_cases e : c' = c
      · have hnl := of_decide_eq_false hf.2
        have hVe := j1.2.2.2.1 hf.1
        rw [e] at hlt ⊢
        rw [hVe] at hv hnl
        have : v = V0 c + 1 := by
          rw [hv]
          unfold plN
          rw [if_neg (by omega)]
        omega
      · exact j2 hf.1 c' (by omega) hcw hlt
    · unfold S_X8_closesChanges_10 B_X8_closesChanges_52 B_X8_closesChanges_57
      simp (disch := omega) only [zi_t, zi_f, bnd_t, zg_in, zx, nI_ltI, nI_leI, nI_eq, nI_add, pk_mul, pk_sub, mup_s, mup_c, mup_j, mrw_c, if_pos, if_neg, zm_1, zm_2, zm_3, zm_4, zm_5, zm_6, zm_7, zm_8, zm_9, zf_0, zf_1, zf_2, zf_3, zf_4, zf_5, zf_6, zf_7, zf_8, zf_9, zf_10, zf_14, zf_15, zf_16, zf_18, zf_19, zf_20, zf_24, zf_30, zf_31, zf_32, zf_33, zf_99, zf_100, zf_160, zf_200, zf_287, zf_288, zf_300, zf_1000, zf_1023, zf_1024, zf_1600, zf_3840, zf_25600, zf_36000, zf_1000000, zf_1000000000, zf_2000000000, zf_11560, za_1, za_2, za_4, za_5, za_6, za_7, za_8, za_9, za_10, za_11, za_12, za_14, za_15, za_22, za_23, za_25, za_26, za_27, za_28, za_29, za_30, za_31, za_32, za_33, za_34, za_35, za_41, za_42, za_43, za_44, za_45, za_46, za_47, za_48, za_49, za_61, za_62, za_63, za_64, za_65, za_71, za_72, za_73, za_74, za_75, za_76, za_77, za_78, za_79, za_80, za_81, za_82, za_83, za_84, za_85, za_86, za_87, za_88, za_89, za_90, za_91, za_92, za_93, za_94, za_95, za_96, za_97, za_98, za_99, za_100, za_101, za_102, za_103, za_104, za_105, za_106, za_107, za_108, e702, ea]
      rw [cal_t hpl]
      by_cases cc : v < V (c + 32)
      · rw [if_pos cc] at hle
        cases fl <;> simp (disch := omega) only [zi_t, zi_f, bnd_t, zg_in, zx, nI_ltI, nI_leI, nI_eq, nI_add, pk_mul, pk_sub, mup_s, mup_c, mup_j, mrw_c, if_pos, if_neg, zm_1, zm_2, zm_3, zm_4, zm_5, zm_6, zm_7, zm_8, zm_9, zf_0, zf_1, zf_2, zf_3, zf_4, zf_5, zf_6, zf_7, zf_8, zf_9, zf_10, zf_14, zf_15, zf_16, zf_18, zf_19, zf_20, zf_24, zf_30, zf_31, zf_32, zf_33, zf_99, zf_100, zf_160, zf_200, zf_287, zf_288, zf_300, zf_1000, zf_1023, zf_1024, zf_1600, zf_3840, zf_25600, zf_36000, zf_1000000, zf_1000000000, zf_2000000000, zf_11560, za_1, za_2, za_4, za_5, za_6, za_7, za_8, za_9, za_10, za_11, za_12, za_14, za_15, za_22, za_23, za_25, za_26, za_27, za_28, za_29, za_30, za_31, za_32, za_33, za_34, za_35, za_41, za_42, za_43, za_44, za_45, za_46, za_47, za_48, za_49, za_61, za_62, za_63, za_64, za_65, za_71, za_72, za_73, za_74, za_75, za_76, za_77, za_78, za_79, za_80, za_81, za_82, za_83, za_84, za_85, za_86, za_87, za_88, za_89, za_90, za_91, za_92, za_93, za_94, za_95, za_96, za_97, za_98, za_99, za_100, za_101, za_102, za_103, za_104, za_105, za_106, za_107, za_108, bI_t, bI_f, eb, hle, decide_eq_true cc, Bool.or_true]
      · rw [if_neg cc] at hle
        cases fl <;> simp (disch := omega) only [zi_t, zi_f, bnd_t, zg_in, zx, nI_ltI, nI_leI, nI_eq, nI_add, pk_mul, pk_sub, mup_s, mup_c, mup_j, mrw_c, if_pos, if_neg, zm_1, zm_2, zm_3, zm_4, zm_5, zm_6, zm_7, zm_8, zm_9, zf_0, zf_1, zf_2, zf_3, zf_4, zf_5, zf_6, zf_7, zf_8, zf_9, zf_10, zf_14, zf_15, zf_16, zf_18, zf_19, zf_20, zf_24, zf_30, zf_31, zf_32, zf_33, zf_99, zf_100, zf_160, zf_200, zf_287, zf_288, zf_300, zf_1000, zf_1023, zf_1024, zf_1600, zf_3840, zf_25600, zf_36000, zf_1000000, zf_1000000000, zf_2000000000, zf_11560, za_1, za_2, za_4, za_5, za_6, za_7, za_8, za_9, za_10, za_11, za_12, za_14, za_15, za_22, za_23, za_25, za_26, za_27, za_28, za_29, za_30, za_31, za_32, za_33, za_34, za_35, za_41, za_42, za_43, za_44, za_45, za_46, za_47, za_48, za_49, za_61, za_62, za_63, za_64, za_65, za_71, za_72, za_73, za_74, za_75, za_76, za_77, za_78, za_79, za_80, za_81, za_82, za_83, za_84, za_85, za_86, za_87, za_88, za_89, za_90, za_91, za_92, za_93, za_94, za_95, za_96, za_97, za_98, za_99, za_100, za_101, za_102, za_103, za_104, za_105, za_106, za_107, za_108, bI_t, bI_f, eb, hle, decide_eq_false cc, Bool.or_false]
  · rintro g ⟨m, V, fl⟩ ⟨j1, j2⟩
    have j1 : HI m0 V0 R m V fl := j1
    have e702 : m 70 2 = nI w.length := (j1.mx hM0).1.2.1
    refine ⟨m, V, fl, ?_, j1, j2⟩
    show S_X8_closesChanges_10 N rec (L_X8_closesChanges_10 N rec g) m (nI i) (bI fl) (nI (32 * w.length)) = _
    unfold S_X8_closesChanges_10
    simp (disch := omega) only [zi_t, zi_f, bnd_t, zg_in, zx, nI_ltI, nI_leI, nI_eq, nI_add, pk_mul, pk_sub, mup_s, mup_c, mup_j, mrw_c, if_pos, if_neg, zm_1, zm_2, zm_3, zm_4, zm_5, zm_6, zm_7, zm_8, zm_9, zf_0, zf_1, zf_2, zf_3, zf_4, zf_5, zf_6, zf_7, zf_8, zf_9, zf_10, zf_14, zf_15, zf_16, zf_18, zf_19, zf_20, zf_24, zf_30, zf_31, zf_32, zf_33, zf_99, zf_100, zf_160, zf_200, zf_287, zf_288, zf_300, zf_1000, zf_1023, zf_1024, zf_1600, zf_3840, zf_25600, zf_36000, zf_1000000, zf_1000000000, zf_2000000000, zf_11560, za_1, za_2, za_4, za_5, za_6, za_7, za_8, za_9, za_10, za_11, za_12, za_14, za_15, za_22, za_23, za_25, za_26, za_27, za_28, za_29, za_30, za_31, za_32, za_33, za_34, za_35, za_41, za_42, za_43, za_44, za_45, za_46, za_47, za_48, za_49, za_61, za_62, za_63, za_64, za_65, za_71, za_72, za_73, za_74, za_75, za_76, za_77, za_78, za_79, za_80, za_81, za_82, za_83, za_84, za_85, za_86, za_87, za_88, za_89, za_90, za_91, za_92, za_93, za_94, za_95, za_96, za_97, za_98, za_99, za_100, za_101, za_102, za_103, za_104, za_105, za_106, za_107, za_108, e702]
theorem mo_kPass {N i n : Nat} {f : Nat → Bool} {L : ArL} {w : List Nat} {δ V0 : Nat → Nat} {R : Nat → Nat → Prop} {m0 : Mem} {rec : Mem → Int32 → Int32 → Option Mem} (hN : 40000 < N) (hG : GD i n L w) (hM0 : MLk m0 i n f L w δ) (hV0 : HV m0 100 V0 R) (hR : ∀ a j c b, R a j → Eg 2 L w a c b 8 → R b (j + c)) :
    ∃ m' V' fl, L_X8_closesChanges_10 N rec N m0 (nI i) (nI 0) (nI 0) = rec m' (nI i) (bI fl) ∧ HI m0 V0 R m' V' fl ∧ (fl = false → KSc w V0 (32 * w.length) ∧ PKc L w V0 L.length) := by
  have hG' := hG
  obtain ⟨hi, hok, hl, hn, hwl, hwx, _⟩ := hG'
  obtain ⟨ma, Va, fa, a1, a2, a3⟩ := mo_kSkips (N := N) (rec := rec) hN hG hM0 hV0 hR
  rw [a1]
  refine loopF (σ := Mem × (Nat → Nat) × Bool) (fun g x j => L_X8_closesChanges_93 N rec g x.1 (nI i) (bI x.2.2) (nI (160 * i + j))) L.length (fun j x => HI m0 V0 R x.1 x.2.1 x.2.2 ∧ (x.2.2 = false → KSc w V0 (32 * w.length) ∧ PKc L w V0 j)) (fun o => ∃ m' V' fl, o = rec m' (nI i) (bI fl) ∧ HI m0 V0 R m' V' fl ∧ (fl = false → KSc w V0 (32 * w.length) ∧ PKc L w V0 L.length)) ?_ ?_ N 0 (ma, Va, fa) (Nat.zero_le _) ⟨a2, fun hf => ⟨a3 hf, fun j q p hj => absurd hj (Nat.not_lt_zero _)⟩⟩ (by omega)
  · rintro g j ⟨m1, V1, fl⟩ hj ⟨i1, i2⟩
    have i1 : HI m0 V0 R m1 V1 fl := i1
    have i2 : fl = false → KSc w V0 (32 * w.length) ∧ PKc L w V0 j := i2
    have h1 := i1.mx hM0
    obtain ⟨q, hq⟩ : ∃ q, L[j]? = some q := ⟨_, List.getElem?_eq_getElem hj⟩
    have hqL := List.mem_of_getElem? hq
    have hqm := hok q hqL
    have f1 := hqm.2.1
    have t1 := hqm.2.2.1
    have hul := hqm.2.2.2.1
    have e74 := h1.1.1.2.2.1
    left
    show ∃ s' : Mem × (Nat → Nat) × Bool, _ ∧ S_X8_closesChanges_93 N rec (L_X8_closesChanges_93 N rec g) m1 (nI i) (bI fl) (nI (160 * i + j)) = _
    unfold S_X8_closesChanges_93
    simp (disch := omega) only [zi_t, zi_f, bnd_t, zg_in, zx, nI_ltI, nI_leI, nI_eq, nI_add, pk_mul, pk_sub, mup_s, mup_c, mup_j, mrw_c, if_pos, if_neg, zm_1, zm_2, zm_3, zm_4, zm_5, zm_6, zm_7, zm_8, zm_9, zf_0, zf_1, zf_2, zf_3, zf_4, zf_5, zf_6, zf_7, zf_8, zf_9, zf_10, zf_14, zf_15, zf_16, zf_18, zf_19, zf_20, zf_24, zf_30, zf_31, zf_32, zf_33, zf_99, zf_100, zf_160, zf_200, zf_287, zf_288, zf_300, zf_1000, zf_1023, zf_1024, zf_1600, zf_3840, zf_25600, zf_36000, zf_1000000, zf_1000000000, zf_2000000000, zf_11560, za_1, za_2, za_4, za_5, za_6, za_7, za_8, za_9, za_10, za_11, za_12, za_14, za_15, za_22, za_23, za_25, za_26, za_27, za_28, za_29, za_30, za_31, za_32, za_33, za_34, za_35, za_41, za_42, za_43, za_44, za_45, za_46, za_47, za_48, za_49, za_61, za_62, za_63, za_64, za_65, za_71, za_72, za_73, za_74, za_75, za_76, za_77, za_78, za_79, za_80, za_81, za_82, za_83, za_84, za_85, za_86, za_87, za_88, za_89, za_90, za_91, za_92, za_93, za_94, za_95, za_96, za_97, za_98, za_99, za_100, za_101, za_102, za_103, za_104, za_105, za_106, za_107, za_108, e74]
    refine loopF (σ := Mem × (Nat → Nat) × Bool) (fun k x p => L_X8_closesChanges_112 N rec (L_X8_closesChanges_93 N rec g) k x.1 (nI i) (bI x.2.2) (nI (160 * i + j)) (nI p)) (w.length + 1) (fun p x => HI m0 V0 R x.1 x.2.1 x.2.2 ∧ (x.2.2 = false → (KSc w V0 (32 * w.length) ∧ PKc L w V0 j) ∧ ∀ p', p' < p → upr q.1 = 8 → V0 (32 * p' + too q.1) ≤ V0 (32 * p' + fr q.1))) (fun o => ∃ s' : Mem × (Nat → Nat) × Bool, (HI m0 V0 R s'.1 s'.2.1 s'.2.2 ∧ (s'.2.2 = false → KSc w V0 (32 * w.length) ∧ PKc L w V0 (j + 1))) ∧ o = L_X8_closesChanges_93 N rec g s'.1 (nI i) (bI s'.2.2) (nI (160 * i + (j + 1)))) ?_ ?_ N 0 (m1, V1, fl) (Nat.zero_le _) ⟨i1, fun hf => ⟨i2 hf, fun p' hp' => absurd hp' (Nat.not_lt_zero _)⟩⟩ (by omega)
    · rintro k p ⟨m2, V2, fl2⟩ hp ⟨j1, j2⟩
      have j1 : HI m0 V0 R m2 V2 fl2 := j1
      have j2 : fl2 = false → (KSc w V0 (32 * w.length) ∧ PKc L w V0 j) ∧ ∀ p', p' < p → upr q.1 = 8 → V0 (32 * p' + too q.1) ≤ V0 (32 * p' + fr q.1) := j2
      have h2 := j1.mx hM0
      have hp' : p ≤ w.length := by omega
      have e702 := h2.1.2.1
      obtain ⟨e75, e76, e77, e78, e79⟩ := h2.1.1.2.2.2 j q hq
      by_cases c8 : upr q.1 = 8
      · have ea := (j1.2.1 (32 * p + fr q.1) (by omega)).1
        have ha := j1.2.1.top (a := 32 * p + fr q.1) (by omega)
        have eb := (j1.2.1 (32 * p + too q.1) (by omega)).1
        have hb := j1.2.1.top (a := 32 * p + too q.1) (by omega)
        have hle := mo_lesser (a := V2 (32 * p + fr q.1)) (b := V2 (32 * p + too q.1)) (by omega) (by omega)
        rw [les_eq] at hle
        have hup := j1.up (b := 32 * p + too q.1) (v := V2 (32 * p + fr q.1)) (by omega) (fun hlt => by
          have := hR _ _ _ _ (j1.2.1.r (a := 32 * p + fr q.1) (by omega) (by omega)) (eg_emp hqL hp' c8)
          exact this)
        left
        show ∃ s' : Mem × (Nat → Nat) × Bool, _ ∧ S_X8_closesChanges_112 N rec (L_X8_closesChanges_93 N rec g) (L_X8_closesChanges_112 N rec (L_X8_closesChanges_93 N rec g) k) m2 (nI i) (bI fl2) (nI (160 * i + j)) (nI p) = _
        refine ⟨(mup m2 100 (32 * p + too q.1) (nI (if V2 (32 * p + fr q.1) < V2 (32 * p + too q.1) then V2 (32 * p + fr q.1) else V2 (32 * p + too q.1))), lwV V2 (32 * p + too q.1) (V2 (32 * p + fr q.1)), fl2 || decide (V2 (32 * p + fr q.1) < V2 (32 * p + too q.1))), ⟨hup, fun hf => ?_⟩, ?_⟩
        · have hf : (fl2 || decide (V2 (32 * p + fr q.1) < V2 (32 * p + too q.1))) = false := hf
          rw [Bool.or_eq_false_iff] at hf
          obtain ⟨y1, y2⟩ := j2 hf.1
          refine ⟨y1, fun p' hp' h8 => ?_⟩
          by_cases e : p' = p
          · have hnl := of_decide_eq_false hf.2
            rw [j1.2.2.2.1 hf.1] at hnl
            rw [e]
            omega
          · exact y2 p' (by omega) h8
        · rw [c8] at e76
          unfold S_X8_closesChanges_112 B_X8_closesChanges_177 B_X8_closesChanges_182
          by_cases cc : V2 (32 * p + fr q.1) < V2 (32 * p + too q.1)
          · rw [if_pos cc] at hle
            cases fl2 <;> simp (disch := omega) only [zi_t, zi_f, bnd_t, zg_in, zx, nI_ltI, nI_leI, nI_eq, nI_add, pk_mul, pk_sub, mup_s, mup_c, mup_j, mrw_c, if_pos, if_neg, zm_1, zm_2, zm_3, zm_4, zm_5, zm_6, zm_7, zm_8, zm_9, zf_0, zf_1, zf_2, zf_3, zf_4, zf_5, zf_6, zf_7, zf_8, zf_9, zf_10, zf_14, zf_15, zf_16, zf_18, zf_19, zf_20, zf_24, zf_30, zf_31, zf_32, zf_33, zf_99, zf_100, zf_160, zf_200, zf_287, zf_288, zf_300, zf_1000, zf_1023, zf_1024, zf_1600, zf_3840, zf_25600, zf_36000, zf_1000000, zf_1000000000, zf_2000000000, zf_11560, za_1, za_2, za_4, za_5, za_6, za_7, za_8, za_9, za_10, za_11, za_12, za_14, za_15, za_22, za_23, za_25, za_26, za_27, za_28, za_29, za_30, za_31, za_32, za_33, za_34, za_35, za_41, za_42, za_43, za_44, za_45, za_46, za_47, za_48, za_49, za_61, za_62, za_63, za_64, za_65, za_71, za_72, za_73, za_74, za_75, za_76, za_77, za_78, za_79, za_80, za_81, za_82, za_83, za_84, za_85, za_86, za_87, za_88, za_89, za_90, za_91, za_92, za_93, za_94, za_95, za_96, za_97, za_98, za_99, za_100, za_101, za_102, za_103, za_104, za_105, za_106, za_107, za_108, e702, e76, e75, e79, bI_t, bI_f, ea, eb, hle, decide_eq_true cc, Bool.or_true]
          · rw [if_neg cc] at hle
            cases fl2 <;> simp (disch := omega) only [zi_t, zi_f, bnd_t, zg_in, zx, nI_ltI, nI_leI, nI_eq, nI_add, pk_mul, pk_sub, mup_s, mup_c, mup_j, mrw_c, if_pos, if_neg, zm_1, zm_2, zm_3, zm_4, zm_5, zm_6, zm_7, zm_8, zm_9, zf_0, zf_1, zf_2, zf_3, zf_4, zf_5, zf_6, zf_7, zf_8, zf_9, zf_10, zf_14, zf_15, zf_16, zf_18, zf_19, zf_20, zf_24, zf_30, zf_31, zf_32, zf_33, zf_99, zf_100, zf_160, zf_200, zf_287, zf_288, zf_300, zf_1000, zf_1023, zf_1024, zf_1600, zf_3840, zf_25600, zf_36000, zf_1000000, zf_1000000000, zf_2000000000, zf_11560, za_1, za_2, za_4, za_5, za_6, za_7, za_8, za_9, za_10, za_11, za_12, za_14, za_15, za_22, za_23, za_25, za_26, za_27, za_28, za_29, za_30, za_31, za_32, za_33, za_34, za_35, za_41, za_42, za_43, za_44, za_45, za_46, za_47, za_48, za_49, za_61, za_62, za_63, za_64, za_65, za_71, za_72, za_73, za_74, za_75, za_76, za_77, za_78, za_79, za_80, za_81, za_82, za_83, za_84, za_85, za_86, za_87, za_88, za_89, za_90, za_91, za_92, za_93, za_94, za_95, za_96, za_97, za_98, za_99, za_100, za_101, za_102, za_103, za_104, za_105, za_106, za_107, za_108, e702, e76, e75, e79, bI_t, bI_f, ea, eb, hle, decide_eq_false cc, Bool.or_false]
      · right
        show ∃ s' : Mem × (Nat → Nat) × Bool, _ ∧ S_X8_closesChanges_112 N rec (L_X8_closesChanges_93 N rec g) (L_X8_closesChanges_112 N rec (L_X8_closesChanges_93 N rec g) k) m2 (nI i) (bI fl2) (nI (160 * i + j)) (nI p) = _
        refine ⟨(m2, V2, fl2), ⟨j1, fun hf => ?_⟩, ?_⟩
        · obtain ⟨y1, y2⟩ := j2 hf
          refine ⟨y1.1, fun j' q' p' hj' hq' hs' hp' => ?_⟩
          by_cases e : j' = j
          · rw [e, hq] at hq'
            have e2 := Option.some.inj hq'
            rw [← e2] at hs'
            exact absurd hs' c8
          · exact y1.2 j' q' p' (by omega) hq' hs' hp'
        · unfold S_X8_closesChanges_112 B_X8_closesChanges_228
          simp (disch := omega) only [zi_t, zi_f, bnd_t, zg_in, zx, nI_ltI, nI_leI, nI_eq, nI_add, pk_mul, pk_sub, mup_s, mup_c, mup_j, mrw_c, if_pos, if_neg, zm_1, zm_2, zm_3, zm_4, zm_5, zm_6, zm_7, zm_8, zm_9, zf_0, zf_1, zf_2, zf_3, zf_4, zf_5, zf_6, zf_7, zf_8, zf_9, zf_10, zf_14, zf_15, zf_16, zf_18, zf_19, zf_20, zf_24, zf_30, zf_31, zf_32, zf_33, zf_99, zf_100, zf_160, zf_200, zf_287, zf_288, zf_300, zf_1000, zf_1023, zf_1024, zf_1600, zf_3840, zf_25600, zf_36000, zf_1000000, zf_1000000000, zf_2000000000, zf_11560, za_1, za_2, za_4, za_5, za_6, za_7, za_8, za_9, za_10, za_11, za_12, za_14, za_15, za_22, za_23, za_25, za_26, za_27, za_28, za_29, za_30, za_31, za_32, za_33, za_34, za_35, za_41, za_42, za_43, za_44, za_45, za_46, za_47, za_48, za_49, za_61, za_62, za_63, za_64, za_65, za_71, za_72, za_73, za_74, za_75, za_76, za_77, za_78, za_79, za_80, za_81, za_82, za_83, za_84, za_85, za_86, za_87, za_88, za_89, za_90, za_91, za_92, za_93, za_94, za_95, za_96, za_97, za_98, za_99, za_100, za_101, za_102, za_103, za_104, za_105, za_106, za_107, za_108, e702, e76]
          rfl
    · rintro k ⟨m2, V2, fl2⟩ ⟨j1, j2⟩
      have j1 : HI m0 V0 R m2 V2 fl2 := j1
      have h2 := j1.mx hM0
      have e702 := h2.1.2.1
      refine ⟨(m2, V2, fl2), ⟨j1, fun hf => ?_⟩, ?_⟩
      · obtain ⟨y1, y2⟩ := j2 hf
        refine ⟨y1.1, fun j' q' p' hj' hq' hs' hp' => ?_⟩
        by_cases e : j' = j
        · rw [e, hq] at hq'
          have e2 := Option.some.inj hq'
          subst e2
          exact y2 p' (by omega) hs'
        · exact y1.2 j' q' p' (by omega) hq' hs' hp'
      · show S_X8_closesChanges_112 N rec (L_X8_closesChanges_93 N rec g) (L_X8_closesChanges_112 N rec (L_X8_closesChanges_93 N rec g) k) m2 (nI i) (bI fl2) (nI (160 * i + j)) (nI (w.length + 1)) = _
        unfold S_X8_closesChanges_112 B_X8_closesChanges_228
        simp (disch := omega) only [zi_t, zi_f, bnd_t, zg_in, zx, nI_ltI, nI_leI, nI_eq, nI_add, pk_mul, pk_sub, mup_s, mup_c, mup_j, mrw_c, if_pos, if_neg, zm_1, zm_2, zm_3, zm_4, zm_5, zm_6, zm_7, zm_8, zm_9, zf_0, zf_1, zf_2, zf_3, zf_4, zf_5, zf_6, zf_7, zf_8, zf_9, zf_10, zf_14, zf_15, zf_16, zf_18, zf_19, zf_20, zf_24, zf_30, zf_31, zf_32, zf_33, zf_99, zf_100, zf_160, zf_200, zf_287, zf_288, zf_300, zf_1000, zf_1023, zf_1024, zf_1600, zf_3840, zf_25600, zf_36000, zf_1000000, zf_1000000000, zf_2000000000, zf_11560, za_1, za_2, za_4, za_5, za_6, za_7, za_8, za_9, za_10, za_11, za_12, za_14, za_15, za_22, za_23, za_25, za_26, za_27, za_28, za_29, za_30, za_31, za_32, za_33, za_34, za_35, za_41, za_42, za_43, za_44, za_45, za_46, za_47, za_48, za_49, za_61, za_62, za_63, za_64, za_65, za_71, za_72, za_73, za_74, za_75, za_76, za_77, za_78, za_79, za_80, za_81, za_82, za_83, za_84, za_85, za_86, za_87, za_88, za_89, za_90, za_91, za_92, za_93, za_94, za_95, za_96, za_97, za_98, za_99, za_100, za_101, za_102, za_103, za_104, za_105, za_106, za_107, za_108, e702]
        rfl
  · rintro g ⟨m1, V1, fl⟩ ⟨i1, i2⟩
    have i1 : HI m0 V0 R m1 V1 fl := i1
    have h1 := i1.mx hM0
    have e74 := h1.1.1.2.2.1
    refine ⟨m1, V1, fl, ?_, i1, i2⟩
    show S_X8_closesChanges_93 N rec (L_X8_closesChanges_93 N rec g) m1 (nI i) (bI fl) (nI (160 * i + L.length)) = _
    unfold S_X8_closesChanges_93
    simp (disch := omega) only [zi_t, zi_f, bnd_t, zg_in, zx, nI_ltI, nI_leI, nI_eq, nI_add, pk_mul, pk_sub, mup_s, mup_c, mup_j, mrw_c, if_pos, if_neg, zm_1, zm_2, zm_3, zm_4, zm_5, zm_6, zm_7, zm_8, zm_9, zf_0, zf_1, zf_2, zf_3, zf_4, zf_5, zf_6, zf_7, zf_8, zf_9, zf_10, zf_14, zf_15, zf_16, zf_18, zf_19, zf_20, zf_24, zf_30, zf_31, zf_32, zf_33, zf_99, zf_100, zf_160, zf_200, zf_287, zf_288, zf_300, zf_1000, zf_1023, zf_1024, zf_1600, zf_3840, zf_25600, zf_36000, zf_1000000, zf_1000000000, zf_2000000000, zf_11560, za_1, za_2, za_4, za_5, za_6, za_7, za_8, za_9, za_10, za_11, za_12, za_14, za_15, za_22, za_23, za_25, za_26, za_27, za_28, za_29, za_30, za_31, za_32, za_33, za_34, za_35, za_41, za_42, za_43, za_44, za_45, za_46, za_47, za_48, za_49, za_61, za_62, za_63, za_64, za_65, za_71, za_72, za_73, za_74, za_75, za_76, za_77, za_78, za_79, za_80, za_81, za_82, za_83, za_84, za_85, za_86, za_87, za_88, za_89, za_90, za_91, za_92, za_93, za_94, za_95, za_96, za_97, za_98, za_99, za_100, za_101, za_102, za_103, za_104, za_105, za_106, za_107, za_108, e74]
theorem mo_closesCh {N i n : Nat} {f : Nat → Bool} {L : ArL} {w : List Nat} {δ V0 : Nat → Nat} {R : Nat → Nat → Prop} {m0 : Mem} (hN : 2000000000000 < N) (hG : GD i n L w) (hM0 : MLk m0 i n f L w δ) (hV0 : HV m0 100 V0 R) (hR : ∀ a j c b, R a j → Eg 2 L w a c b 8 → R b (j + c)) :
    ∃ m' V', F_X8_closesChanges N m0 (nI i) = some m' ∧ Fx 100 101 [] m0 m' ∧ HV m' 100 V' R ∧ (∀ a, V' a ≤ V0 a) ∧ ∀ a c b, Eg 2 L w a c b 8 → V' a < 2000000000 → V' b ≤ V' a + c := by
  unfold F_X8_closesChanges
  refine hv_while (N := N) (Q := fun o => ∃ m' V', o = some m' ∧ Fx 100 101 [] m0 m' ∧ HV m' 100 V' R ∧ (∀ a, V' a ≤ V0 a) ∧ ∀ a c b, Eg 2 L w a c b 8 → V' a < 2000000000 → V' b ≤ V' a + c) (Cl := fun V => KSc w V (32 * w.length) ∧ PKc L w V L.length) hN hV0 (fun g m b => L_X8_closesChanges_2 N g m (nI i) (bI b)) ?_ ?_
  · intro g m V h1 h2
    obtain ⟨m', V', fl, s1, s2, s3⟩ := mo_kPass (N := N) (rec := L_X8_closesChanges_2 N g) (by omega) hG (hM0.cg (fun k a b => h1.1 k (by omega) (by omega)) (h1.2 2 (by simp))) h2 hR
    refine ⟨m', V', fl, ?_, s2, s3⟩
    show S_X8_closesChanges_2 N (L_X8_closesChanges_2 N g) m (nI i) (bI true) = _
    unfold S_X8_closesChanges_2
    simp (disch := omega) only [zi_t, zi_f, bnd_t, zg_in, zx, nI_ltI, nI_leI, nI_eq, nI_add, pk_mul, pk_sub, mup_s, mup_c, mup_j, mrw_c, if_pos, if_neg, zm_1, zm_2, zm_3, zm_4, zm_5, zm_6, zm_7, zm_8, zm_9, zf_0, zf_1, zf_2, zf_3, zf_4, zf_5, zf_6, zf_7, zf_8, zf_9, zf_10, zf_14, zf_15, zf_16, zf_18, zf_19, zf_20, zf_24, zf_30, zf_31, zf_32, zf_33, zf_99, zf_100, zf_160, zf_200, zf_287, zf_288, zf_300, zf_1000, zf_1023, zf_1024, zf_1600, zf_3840, zf_25600, zf_36000, zf_1000000, zf_1000000000, zf_2000000000, zf_11560, za_1, za_2, za_4, za_5, za_6, za_7, za_8, za_9, za_10, za_11, za_12, za_14, za_15, za_22, za_23, za_25, za_26, za_27, za_28, za_29, za_30, za_31, za_32, za_33, za_34, za_35, za_41, za_42, za_43, za_44, za_45, za_46, za_47, za_48, za_49, za_61, za_62, za_63, za_64, za_65, za_71, za_72, za_73, za_74, za_75, za_76, za_77, za_78, za_79, za_80, za_81, za_82, za_83, za_84, za_85, za_86, za_87, za_88, za_89, za_90, za_91, za_92, za_93, za_94, za_95, za_96, za_97, za_98, za_99, za_100, za_101, za_102, za_103, za_104, za_105, za_106, za_107, za_108, bI_t]
    exact s1
  · intro g m V h1 h2 h3 h4
    refine ⟨m, V, ?_, h1, h2, h3, fun a c b hE hlt => ?_⟩
    · show S_X8_closesChanges_2 N (L_X8_closesChanges_2 N g) m (nI i) (bI false) = _
      unfold S_X8_closesChanges_2
      simp (disch := omega) only [zi_t, zi_f, bnd_t, zg_in, zx, nI_ltI, nI_leI, nI_eq, nI_add, pk_mul, pk_sub, mup_s, mup_c, mup_j, mrw_c, if_pos, if_neg, zm_1, zm_2, zm_3, zm_4, zm_5, zm_6, zm_7, zm_8, zm_9, zf_0, zf_1, zf_2, zf_3, zf_4, zf_5, zf_6, zf_7, zf_8, zf_9, zf_10, zf_14, zf_15, zf_16, zf_18, zf_19, zf_20, zf_24, zf_30, zf_31, zf_32, zf_33, zf_99, zf_100, zf_160, zf_200, zf_287, zf_288, zf_300, zf_1000, zf_1023, zf_1024, zf_1600, zf_3840, zf_25600, zf_36000, zf_1000000, zf_1000000000, zf_2000000000, zf_11560, za_1, za_2, za_4, za_5, za_6, za_7, za_8, za_9, za_10, za_11, za_12, za_14, za_15, za_22, za_23, za_25, za_26, za_27, za_28, za_29, za_30, za_31, za_32, za_33, za_34, za_35, za_41, za_42, za_43, za_44, za_45, za_46, za_47, za_48, za_49, za_61, za_62, za_63, za_64, za_65, za_71, za_72, za_73, za_74, za_75, za_76, za_77, za_78, za_79, za_80, za_81, za_82, za_83, za_84, za_85, za_86, za_87, za_88, za_89, za_90, za_91, za_92, za_93, za_94, za_95, za_96, za_97, za_98, za_99, za_100, za_101, za_102, za_103, za_104, za_105, za_106, za_107, za_108, bI_f]
    · obtain ⟨p, hp, hE⟩ := hE
      rcases hE with ⟨q, hq, e1, ea, eb, ex⟩ | ⟨q, hq, e1, ea, eb, ex⟩ | ⟨s, hs, e1, ea, eb, ex⟩
      · obtain ⟨j, hj⟩ := List.getElem?_of_mem hq
        have h8 : upr q.1 = 8 := ex.symm
        have := h4.2 j q p (List.getElem?_eq_some_iff.mp hj).1 hj h8 hp
        rw [ea, eb]
        omega
      · exfalso
        have h8 : rdW 2 q = 8 := ex.symm
        unfold cRd at e1
        cases hwp : w[p]? with
        | none => rw [hwp] at e1; cases e1
        | some y =>
          rw [hwp] at e1
          have e1 : (if rdW 2 q = 8 then none else if 2 = 2 then some (if rdW 2 q = y then 0 else 1) else if rdW 2 q = y then some q.2 else none) = some c := e1
          rw [if_pos h8] at e1
          cases e1
      · obtain ⟨z1, z2, z3⟩ := cSk_lt e1
        have := h4.1 a (by omega) (by omega) hlt
        rw [show b = a + 32 by omega, z2]
        exact this
