/-! the model's rests of changes, all -/
def QB (L : ArL) (w : List Nat) (V0 V : Nat → Nat) (k : Nat) : Prop := ∀ j q p, j < k → L[j]? = some q → p ≤ w.length → V (32 * p + fr q.1) ≤ vC V0 w q p
theorem v1C_mono {V V0 : Nat → Nat} {q : Nat × Nat} {p : Nat} (h : ∀ y, V y ≤ V0 y) (h0 : V0 (32 * p + too q.1) ≤ 2000000000) : v1C V q p ≤ v1C V0 q p ∨ 2000000000 ≤ v1C V0 q p ∧ v1C V q p ≤ 2000000000 := by
  have := h (32 * p + too q.1)
  unfold v1C plN
  split
  · exact Or.inl this
  · split <;> split <;> omega
def SB (w : List Nat) (V0 V : Nat → Nat) (k : Nat) : Prop := ∀ c, c < k → c < 32 * w.length → V0 (c + 32) < 2000000000 → V c ≤ V0 (c + 32) + 1
def QS (L : ArL) (w : List Nat) (V0 V : Nat → Nat) (k : Nat) : Prop := ∀ j q p, j < k → L[j]? = some q → p ≤ w.length → (∀ c, cSt 2 q = some c → V0 (32 * p + too q.1) < 2000000000 → V (32 * p + fr q.1) ≤ V0 (32 * p + too q.1) + c) ∧ ∀ c, cRd 2 w p q = some c → V0 (32 * (p + 1) + too q.1) < 2000000000 → V (32 * p + fr q.1) ≤ V0 (32 * (p + 1) + too q.1) + c
theorem mc_skips {N i n : Nat} {f : Nat → Bool} {L : ArL} {w : List Nat} {V0 : Nat → Nat} {m0 : Mem} {rec : Mem → Int32 → Int32 → Option Mem} (hN : 40000 < N) (h0 : MSt m0 i n f L w) (hi : i < 24) (hwl : w.length ≤ 8) (hV : TM (eG 2 L w) (En n f w) m0 V0) :
    ∃ m V fl, PV (eG 2 L w) (En n f w) m0 V0 m V fl ∧ SB w V0 V (32 * w.length) ∧ L_X8_restsOfChanges_61 N rec N m0 (nI i) (nI 0) (nI 0) = L_X8_restsOfChanges_138 N rec N m (nI i) (bI fl) (nI (160 * i)) := by
  refine loopF (σ := Mem × (Nat → Nat) × Bool) (fun g x c => L_X8_restsOfChanges_61 N rec g x.1 (nI i) (bI x.2.2) (nI c)) (32 * w.length) (fun c x => PV (eG 2 L w) (En n f w) m0 V0 x.1 x.2.1 x.2.2 ∧ SB w V0 x.2.1 c) (fun o => ∃ m V fl, PV (eG 2 L w) (En n f w) m0 V0 m V fl ∧ SB w V0 V (32 * w.length) ∧ o = L_X8_restsOfChanges_138 N rec N m (nI i) (bI fl) (nI (160 * i))) ?_ ?_ N 0 (m0, V0, false) (Nat.zero_le _) ⟨⟨Fx.rf, hV, fun _ => Nat.le_refl _, fun _ => rfl, fun h => by cases h⟩, fun c hc => absurd hc (Nat.not_lt_zero _)⟩ (by omega)
  · rintro g c ⟨m, V, fl⟩ hc ⟨j1, j2⟩
    have j1 : PV (eG 2 L w) (En n f w) m0 V0 m V fl := j1
    have j2 : SB w V0 V c := j2
    have e702 : m 70 2 = nI w.length := by rw [j1.1.2 2 (by simp)]; exact h0.2.1
    have hb := j1.top (a := c + 32) (by omega)
    have ha := j1.top (a := c) (by omega)
    have eb := (j1.2.1 (c + 32) (by omega)).1
    have ea := (j1.2.1 c (by omega)).1
    have hpl := mo_plus (N := N) (m := m) (k := 1) hb (by omega)
    obtain ⟨v, hv⟩ : ∃ v, v = plN (V (c + 32)) 1 := ⟨_, rfl⟩
    rw [← hv] at hpl
    have hvl : v ≤ 2000000001 := by rw [hv]; unfold plN; split <;> omega
    have hle := mo_lesser (a := v) (b := V c) (by omega) (by omega)
    rw [les_eq] at hle
    have hwy : v < V c → Wy (eG 2 L w) (En n f w) c v ∧ v < 2000000000 := by
      intro hlt
      have hl2 : v < 2000000000 := by omega
      refine ⟨?_, hl2⟩
      rw [hv] at hl2
      obtain ⟨x1, x2⟩ := plN_lt hl2
      have hE : eG 2 L w c 1 (c + 32) := by
        refine ⟨8, c / 32, by omega, Or.inr (Or.inr ⟨c % 32, by omega, ?_, by omega, by omega, rfl⟩)⟩
        unfold cSk
        rw [if_pos ⟨rfl, by omega⟩]
      have := wy_st hE (j1.wy (a := c + 32) (by omega) (by omega))
      have e5 : v = 1 + V (c + 32) := by rw [hv, x2]; exact Nat.add_comm _ _
      rw [e5]
      exact this
    left
    refine ⟨(_, lwV V c v, fl || decide (v < V c)), ⟨j1.up (by omega) hwy, fun d hd hdw hlt => ?_⟩, ?_⟩
    · by_cases e : d = c
      · subst e
        refine Nat.le_trans lwV_at ?_
        have h3 := j1.2.2.1 (d + 32)
        rw [hv]
        have := plN_le (k := 1) (by omega : V (d + 32) < 2000000000)
        omega
      · exact Nat.le_trans (lwV_le _) (j2 d (by omega) hdw hlt)
    · show S_X8_restsOfChanges_61 N rec (L_X8_restsOfChanges_61 N rec g) m (nI i) (bI fl) (nI c) = L_X8_restsOfChanges_61 N rec g (mup m 99 c (nI (if v < V c then v else V c))) (nI i) (bI (fl || decide (v < V c))) (nI (c + 1))
      unfold S_X8_restsOfChanges_61 B_X8_restsOfChanges_103 B_X8_restsOfChanges_108
      simp (disch := omega) only [zi_t, zi_f, bnd_t, zg_in, zx, nI_ltI, nI_leI, nI_eq, nI_add, pk_mul, pk_sub, mup_s, mup_c, mup_j, mrw_c, if_pos, if_neg, zm_1, zm_2, zm_3, zm_4, zm_5, zm_6, zm_7, zm_8, zm_9, zf_0, zf_1, zf_2, zf_3, zf_4, zf_5, zf_6, zf_7, zf_8, zf_9, zf_10, zf_14, zf_15, zf_16, zf_18, zf_19, zf_20, zf_24, zf_30, zf_31, zf_32, zf_33, zf_99, zf_100, zf_160, zf_200, zf_287, zf_288, zf_300, zf_1000, zf_1023, zf_1024, zf_1600, zf_3840, zf_25600, zf_36000, zf_1000000, zf_1000000000, zf_2000000000, zf_11560, za_1, za_2, za_4, za_5, za_6, za_7, za_8, za_9, za_10, za_11, za_12, za_14, za_15, za_22, za_23, za_25, za_26, za_27, za_28, za_29, za_30, za_31, za_32, za_33, za_34, za_35, za_41, za_42, za_43, za_44, za_45, za_46, za_47, za_48, za_49, za_61, za_62, za_63, za_64, za_65, za_71, za_72, za_73, za_74, za_75, za_76, za_77, za_78, za_79, za_80, za_81, za_82, za_83, za_84, za_85, za_86, za_87, za_88, za_89, za_90, za_91, za_92, za_93, za_94, za_95, za_96, za_97, za_98, za_99, za_100, za_101, za_102, za_103, za_104, za_105, za_106, za_107, za_108, e702, eb]
      rw [cal_t hpl]
      by_cases cc : v < V c
      · rw [if_pos cc] at hle ⊢
        rw [decide_eq_true cc, Bool.or_true]
        cases fl with
        | true => simp (disch := omega) only [zi_t, zi_f, bnd_t, zg_in, zx, nI_ltI, nI_leI, nI_eq, nI_add, pk_mul, pk_sub, mup_s, mup_c, mup_j, mrw_c, if_pos, if_neg, zm_1, zm_2, zm_3, zm_4, zm_5, zm_6, zm_7, zm_8, zm_9, zf_0, zf_1, zf_2, zf_3, zf_4, zf_5, zf_6, zf_7, zf_8, zf_9, zf_10, zf_14, zf_15, zf_16, zf_18, zf_19, zf_20, zf_24, zf_30, zf_31, zf_32, zf_33, zf_99, zf_100, zf_160, zf_200, zf_287, zf_288, zf_300, zf_1000, zf_1023, zf_1024, zf_1600, zf_3840, zf_25600, zf_36000, zf_1000000, zf_1000000000, zf_2000000000, zf_11560, za_1, za_2, za_4, za_5, za_6, za_7, za_8, za_9, za_10, za_11, za_12, za_14, za_15, za_22, za_23, za_25, za_26, za_27, za_28, za_29, za_30, za_31, za_32, za_33, za_34, za_35, za_41, za_42, za_43, za_44, za_45, za_46, za_47, za_48, za_49, za_61, za_62, za_63, za_64, za_65, za_71, za_72, za_73, za_74, za_75, za_76, za_77, za_78, za_79, za_80, za_81, za_82, za_83, za_84, za_85, za_86, za_87, za_88, za_89, za_90, za_91, za_92, za_93, za_94, za_95, za_96, za_97, za_98, za_99, za_100, za_101, za_102, za_103, za_104, za_105, za_106, za_107, za_108, bI_t, ea, hle]
        | false => simp (disch := omega) only [zi_t, zi_f, bnd_t, zg_in, zx, nI_ltI, nI_leI, nI_eq, nI_add, pk_mul, pk_sub, mup_s, mup_c, mup_j, mrw_c, if_pos, if_neg, zm_1, zm_2, zm_3, zm_4, zm_5, zm_6, zm_7, zm_8, zm_9, zf_0, zf_1, zf_2, zf_3, zf_4, zf_5, zf_6, zf_7, zf_8, zf_9, zf_10, zf_14, zf_15, zf_16, zf_18, zf_19, zf_20, zf_24, zf_30, zf_31, zf_32, zf_33, zf_99, zf_100, zf_160, zf_200, zf_287, zf_288, zf_300, zf_1000, zf_1023, zf_1024, zf_1600, zf_3840, zf_25600, zf_36000, zf_1000000, zf_1000000000, zf_2000000000, zf_11560, za_1, za_2, za_4, za_5, za_6, za_7, za_8, za_9, za_10, za_11, za_12, za_14, za_15, za_22, za_23, za_25, za_26, za_27, za_28, za_29, za_30, za_31, za_32, za_33, za_34, za_35, za_41, za_42, za_43, za_44, za_45, za_46, za_47, za_48, za_49, za_61, za_62, za_63, za_64, za_65, za_71, za_72, za_73, za_74, za_75, za_76, za_77, za_78, za_79, za_80, za_81, za_82, za_83, za_84, za_85, za_86, za_87, za_88, za_89, za_90, za_91, za_92, za_93, za_94, za_95, za_96, za_97, za_98, za_99, za_100, za_101, za_102, za_103, za_104, za_105, za_106, za_107, za_108, bI_f, bI_t, ea, hle]
      · rw [if_neg cc] at hle ⊢
        rw [decide_eq_false cc, Bool.or_false]
        cases fl with
        | true => simp (disch := omega) only [zi_t, zi_f, bnd_t, zg_in, zx, nI_ltI, nI_leI, nI_eq, nI_add, pk_mul, pk_sub, mup_s, mup_c, mup_j, mrw_c, if_pos, if_neg, zm_1, zm_2, zm_3, zm_4, zm_5, zm_6, zm_7, zm_8, zm_9, zf_0, zf_1, zf_2, zf_3, zf_4, zf_5, zf_6, zf_7, zf_8, zf_9, zf_10, zf_14, zf_15, zf_16, zf_18, zf_19, zf_20, zf_24, zf_30, zf_31, zf_32, zf_33, zf_99, zf_100, zf_160, zf_200, zf_287, zf_288, zf_300, zf_1000, zf_1023, zf_1024, zf_1600, zf_3840, zf_25600, zf_36000, zf_1000000, zf_1000000000, zf_2000000000, zf_11560, za_1, za_2, za_4, za_5, za_6, za_7, za_8, za_9, za_10, za_11, za_12, za_14, za_15, za_22, za_23, za_25, za_26, za_27, za_28, za_29, za_30, za_31, za_32, za_33, za_34, za_35, za_41, za_42, za_43, za_44, za_45, za_46, za_47, za_48, za_49, za_61, za_62, za_63, za_64, za_65, za_71, za_72, za_73, za_74, za_75, za_76, za_77, za_78, za_79, za_80, za_81, za_82, za_83, za_84, za_85, za_86, za_87, za_88, za_89, za_90, za_91, za_92, za_93, za_94, za_95, za_96, za_97, za_98, za_99, za_100, za_101, za_102, za_103, za_104, za_105, za_106, za_107, za_108, bI_t, ea, hle]
        | false => simp (disch := omega) only [zi_t, zi_f, bnd_t, zg_in, zx, nI_ltI, nI_leI, nI_eq, nI_add, pk_mul, pk_sub, mup_s, mup_c, mup_j, mrw_c, if_pos, if_neg, zm_1, zm_2, zm_3, zm_4, zm_5, zm_6, zm_7, zm_8, zm_9, zf_0, zf_1, zf_2, zf_3, zf_4, zf_5, zf_6, zf_7, zf_8, zf_9, zf_10, zf_14, zf_15, zf_16, zf_18, zf_19, zf_20, zf_24, zf_30, zf_31, zf_32, zf_33, zf_99, zf_100, zf_160, zf_200, zf_287, zf_288, zf_300, zf_1000, zf_1023, zf_1024, zf_1600, zf_3840, zf_25600, zf_36000, zf_1000000, zf_1000000000, zf_2000000000, zf_11560, za_1, za_2, za_4, za_5, za_6, za_7, za_8, za_9, za_10, za_11, za_12, za_14, za_15, za_22, za_23, za_25, za_26, za_27, za_28, za_29, za_30, za_31, za_32, za_33, za_34, za_35, za_41, za_42, za_43, za_44, za_45, za_46, za_47, za_48, za_49, za_61, za_62, za_63, za_64, za_65, za_71, za_72, za_73, za_74, za_75, za_76, za_77, za_78, za_79, za_80, za_81, za_82, za_83, za_84, za_85, za_86, za_87, za_88, za_89, za_90, za_91, za_92, za_93, za_94, za_95, za_96, za_97, za_98, za_99, za_100, za_101, za_102, za_103, za_104, za_105, za_106, za_107, za_108, bI_f, ea, hle]
  · rintro g ⟨m, V, fl⟩ ⟨j1, j2⟩
    have j1 : PV (eG 2 L w) (En n f w) m0 V0 m V fl := j1
    have e702 : m 70 2 = nI w.length := by rw [j1.1.2 2 (by simp)]; exact h0.2.1
    refine ⟨m, V, fl, j1, j2, ?_⟩
    show S_X8_restsOfChanges_61 N rec (L_X8_restsOfChanges_61 N rec g) m (nI i) (bI fl) (nI (32 * w.length)) = _
    unfold S_X8_restsOfChanges_61
    simp (disch := omega) only [zi_t, zi_f, bnd_t, zg_in, zx, nI_ltI, nI_leI, nI_eq, nI_add, pk_mul, pk_sub, mup_s, mup_c, mup_j, mrw_c, if_pos, if_neg, zm_1, zm_2, zm_3, zm_4, zm_5, zm_6, zm_7, zm_8, zm_9, zf_0, zf_1, zf_2, zf_3, zf_4, zf_5, zf_6, zf_7, zf_8, zf_9, zf_10, zf_14, zf_15, zf_16, zf_18, zf_19, zf_20, zf_24, zf_30, zf_31, zf_32, zf_33, zf_99, zf_100, zf_160, zf_200, zf_287, zf_288, zf_300, zf_1000, zf_1023, zf_1024, zf_1600, zf_3840, zf_25600, zf_36000, zf_1000000, zf_1000000000, zf_2000000000, zf_11560, za_1, za_2, za_4, za_5, za_6, za_7, za_8, za_9, za_10, za_11, za_12, za_14, za_15, za_22, za_23, za_25, za_26, za_27, za_28, za_29, za_30, za_31, za_32, za_33, za_34, za_35, za_41, za_42, za_43, za_44, za_45, za_46, za_47, za_48, za_49, za_61, za_62, za_63, za_64, za_65, za_71, za_72, za_73, za_74, za_75, za_76, za_77, za_78, za_79, za_80, za_81, za_82, za_83, za_84, za_85, za_86, za_87, za_88, za_89, za_90, za_91, za_92, za_93, za_94, za_95, za_96, za_97, za_98, za_99, za_100, za_101, za_102, za_103, za_104, za_105, za_106, za_107, za_108, e702]
theorem mc_arcs {N i n : Nat} {f : Nat → Bool} {L : ArL} {w : List Nat} {V0 V1 : Nat → Nat} {m0 m1 : Mem} {fl1 : Bool} {rec : Mem → Int32 → Int32 → Option Mem} (hN : 40000 < N) (h0 : MSt m0 i n f L w) (hi : i < 24) (hok : DOK n L) (hl : L.length ≤ 160) (hn : n ≤ 32) (hwl : w.length ≤ 8) (hwx : ∀ x, x ∈ w → x < 8) (hP : PV (eG 2 L w) (En n f w) m0 V0 m1 V1 fl1) (hS : SB w V0 V1 (32 * w.length)) :
    ∃ m V fl, PV (eG 2 L w) (En n f w) m0 V0 m V fl ∧ SB w V0 V (32 * w.length) ∧ QS L w V0 V L.length ∧ L_X8_restsOfChanges_138 N rec N m1 (nI i) (bI fl1) (nI (160 * i)) = rec m (nI i) (bI fl) := by
  have hms : ∀ m', Fx 99 100 [] m0 m' → MSt m' i n f L w := fun m' hf' => h0.cg (fun k a b => hf'.1 k (by omega) (by omega)) (hf'.2 2 (by simp))
  refine loopF (σ := Mem × (Nat → Nat) × Bool) (fun g x j => L_X8_restsOfChanges_138 N rec g x.1 (nI i) (bI x.2.2) (nI (160 * i + j))) L.length (fun j x => PV (eG 2 L w) (En n f w) m0 V0 x.1 x.2.1 x.2.2 ∧ SB w V0 x.2.1 (32 * w.length) ∧ QS L w V0 x.2.1 j) (fun o => ∃ m V fl, PV (eG 2 L w) (En n f w) m0 V0 m V fl ∧ SB w V0 V (32 * w.length) ∧ QS L w V0 V L.length ∧ o = rec m (nI i) (bI fl)) ?_ ?_ N 0 (m1, V1, fl1) (Nat.zero_le _) ⟨hP, hS, fun j q p hj => absurd hj (Nat.not_lt_zero _)⟩ (by omega)
  · rintro g j ⟨m, V, fl⟩ hj ⟨j1, j2, j3⟩
    have j1 : PV (eG 2 L w) (En n f w) m0 V0 m V fl := j1
    have j2 : SB w V0 V (32 * w.length) := j2
    have j3 : QS L w V0 V j := j3
    have h1 := hms m j1.1
    obtain ⟨q, hq⟩ : ∃ q, L[j]? = some q := ⟨_, List.getElem?_eq_getElem hj⟩
    have hqL := List.mem_of_getElem? hq
    have hqm := hok q hqL
    have hf1 := hqm.2.1
    have ht1 := hqm.2.2.1
    have e74 := h1.1.2.2.1
    left
    show ∃ s' : Mem × (Nat → Nat) × Bool, _ ∧ S_X8_restsOfChanges_138 N rec (L_X8_restsOfChanges_138 N rec g) m (nI i) (bI fl) (nI (160 * i + j)) = _
    unfold S_X8_restsOfChanges_138
    simp (disch := omega) only [zi_t, zi_f, bnd_t, zg_in, zx, nI_ltI, nI_leI, nI_eq, nI_add, pk_mul, pk_sub, mup_s, mup_c, mup_j, mrw_c, if_pos, if_neg, zm_1, zm_2, zm_3, zm_4, zm_5, zm_6, zm_7, zm_8, zm_9, zf_0, zf_1, zf_2, zf_3, zf_4, zf_5, zf_6, zf_7, zf_8, zf_9, zf_10, zf_14, zf_15, zf_16, zf_18, zf_19, zf_20, zf_24, zf_30, zf_31, zf_32, zf_33, zf_99, zf_100, zf_160, zf_200, zf_287, zf_288, zf_300, zf_1000, zf_1023, zf_1024, zf_1600, zf_3840, zf_25600, zf_36000, zf_1000000, zf_1000000000, zf_2000000000, zf_11560, za_1, za_2, za_4, za_5, za_6, za_7, za_8, za_9, za_10, za_11, za_12, za_14, za_15, za_22, za_23, za_25, za_26, za_27, za_28, za_29, za_30, za_31, za_32, za_33, za_34, za_35, za_41, za_42, za_43, za_44, za_45, za_46, za_47, za_48, za_49, za_61, za_62, za_63, za_64, za_65, za_71, za_72, za_73, za_74, za_75, za_76, za_77, za_78, za_79, za_80, za_81, za_82, za_83, za_84, za_85, za_86, za_87, za_88, za_89, za_90, za_91, za_92, za_93, za_94, za_95, za_96, za_97, za_98, za_99, za_100, za_101, za_102, za_103, za_104, za_105, za_106, za_107, za_108, e74]
    refine loopF (σ := Mem × (Nat → Nat) × Bool) (fun k x p => L_X8_restsOfChanges_157 N rec (L_X8_restsOfChanges_138 N rec g) k x.1 (nI i) (bI x.2.2) (nI (160 * i + j)) (nI p)) (w.length + 1) (fun p x => PV (eG 2 L w) (En n f w) m0 V0 x.1 x.2.1 x.2.2 ∧ SB w V0 x.2.1 (32 * w.length) ∧ QS L w V0 x.2.1 j ∧ ∀ p', p' < p → (∀ c, cSt 2 q = some c → V0 (32 * p' + too q.1) < 2000000000 → x.2.1 (32 * p' + fr q.1) ≤ V0 (32 * p' + too q.1) + c) ∧ ∀ c, cRd 2 w p' q = some c → V0 (32 * (p' + 1) + too q.1) < 2000000000 → x.2.1 (32 * p' + fr q.1) ≤ V0 (32 * (p' + 1) + too q.1) + c) (fun o => ∃ s' : Mem × (Nat → Nat) × Bool, (PV (eG 2 L w) (En n f w) m0 V0 s'.1 s'.2.1 s'.2.2 ∧ SB w V0 s'.2.1 (32 * w.length) ∧ QS L w V0 s'.2.1 (j + 1)) ∧ o = L_X8_restsOfChanges_138 N rec g s'.1 (nI i) (bI s'.2.2) (nI (160 * i + (j + 1)))) ?_ ?_ N 0 (m, V, fl) (Nat.zero_le _) ⟨j1, j2, j3, fun p' hp => absurd hp (Nat.not_lt_zero _)⟩ (by omega)
    · rintro k p ⟨m2, V2, fl2⟩ hp ⟨k1, k2, k3, k4⟩
      have k1 : PV (eG 2 L w) (En n f w) m0 V0 m2 V2 fl2 := k1
      have k2 : SB w V0 V2 (32 * w.length) := k2
      have k3 : QS L w V0 V2 j := k3
      have h2 := hms m2 k1.1
      obtain ⟨e75, _⟩ := h2.1.2.2.2 j q hq
      have ha : 32 * p + fr q.1 < 288 := by omega
      have hle := k1.2.2.1
      left
      refine ⟨(_, lwV V2 (32 * p + fr q.1) (vC V2 w q p), fl2 || decide (vC V2 w q p < V2 (32 * p + fr q.1))), ⟨k1.up ha (fun hlt => vC_wy k1 hqL (by omega) (by omega) (by omega) hwl hlt), fun c hc hcw hlt => Nat.le_trans (lwV_le _) (k2 c hc hcw hlt), fun j' q' p' hj' hq' hp' => ?_, fun p' hp' => ?_⟩, ?_⟩
      · obtain ⟨x1, x2⟩ := k3 j' q' p' hj' hq' hp'
        exact ⟨fun c hc hlt => Nat.le_trans (lwV_le _) (x1 c hc hlt), fun c hc hlt => Nat.le_trans (lwV_le _) (x2 c hc hlt)⟩
      · by_cases e : p' = p
        · subst e
          refine ⟨fun c hc hlt => Nat.le_trans lwV_at ?_, fun c hc hlt => Nat.le_trans lwV_at ?_⟩
          · have h3 := hle (32 * p' + too q.1)
            have := vC_st (V := V2) (w := w) (p := p') hc (by omega)
            omega
          · have h3 := hle (32 * (p' + 1) + too q.1)
            have := vC_rd (V := V2) hc (by omega)
            omega
        · obtain ⟨x1, x2⟩ := k4 p' (by omega)
          exact ⟨fun c hc hlt => Nat.le_trans (lwV_le _) (x1 c hc hlt), fun c hc hlt => Nat.le_trans (lwV_le _) (x2 c hc hlt)⟩
      · show S_X8_restsOfChanges_157 N rec (L_X8_restsOfChanges_138 N rec g) (L_X8_restsOfChanges_157 N rec (L_X8_restsOfChanges_138 N rec g) k) m2 (nI i) (bI fl2) (nI (160 * i + j)) (nI p) = _
        rw [mc_157 h2 hi hq (by omega) hok hn hwl hwx (by omega) k1.2.1]
        have hbd := vC_bd (w := w) (q := q) (p := p) (k1.top (a := 32 * p + too q.1) (by omega))
        exact mc_less k1.2.1 (by omega) e75 ha (by omega)
    · rintro k ⟨m2, V2, fl2⟩ ⟨k1, k2, k3, k4⟩
      have k1 : PV (eG 2 L w) (En n f w) m0 V0 m2 V2 fl2 := k1
      have h2 := hms m2 k1.1
      have e702 := h2.2.1
      refine ⟨(m2, V2, fl2), ⟨k1, k2, fun j' q' p' hj' hq' hp' => ?_⟩, ?_⟩
      · by_cases e : j' = j
        · rw [e, hq] at hq'
          have e2 := Option.some.inj hq'
          subst e2
          exact k4 p' (by omega)
        · exact k3 j' q' p' (by omega) hq' hp'
      · show S_X8_restsOfChanges_157 N rec (L_X8_restsOfChanges_138 N rec g) (L_X8_restsOfChanges_157 N rec (L_X8_restsOfChanges_138 N rec g) k) m2 (nI i) (bI fl2) (nI (160 * i + j)) (nI (w.length + 1)) = _
        unfold S_X8_restsOfChanges_157
        simp (disch := omega) only [zi_t, zi_f, bnd_t, zg_in, zx, nI_ltI, nI_leI, nI_eq, nI_add, pk_mul, pk_sub, mup_s, mup_c, mup_j, mrw_c, if_pos, if_neg, zm_1, zm_2, zm_3, zm_4, zm_5, zm_6, zm_7, zm_8, zm_9, zf_0, zf_1, zf_2, zf_3, zf_4, zf_5, zf_6, zf_7, zf_8, zf_9, zf_10, zf_14, zf_15, zf_16, zf_18, zf_19, zf_20, zf_24, zf_30, zf_31, zf_32, zf_33, zf_99, zf_100, zf_160, zf_200, zf_287, zf_288, zf_300, zf_1000, zf_1023, zf_1024, zf_1600, zf_3840, zf_25600, zf_36000, zf_1000000, zf_1000000000, zf_2000000000, zf_11560, za_1, za_2, za_4, za_5, za_6, za_7, za_8, za_9, za_10, za_11, za_12, za_14, za_15, za_22, za_23, za_25, za_26, za_27, za_28, za_29, za_30, za_31, za_32, za_33, za_34, za_35, za_41, za_42, za_43, za_44, za_45, za_46, za_47, za_48, za_49, za_61, za_62, za_63, za_64, za_65, za_71, za_72, za_73, za_74, za_75, za_76, za_77, za_78, za_79, za_80, za_81, za_82, za_83, za_84, za_85, za_86, za_87, za_88, za_89, za_90, za_91, za_92, za_93, za_94, za_95, za_96, za_97, za_98, za_99, za_100, za_101, za_102, za_103, za_104, za_105, za_106, za_107, za_108, e702]
        rfl
  · rintro g ⟨m, V, fl⟩ ⟨j1, j2, j3⟩
    have j1 : PV (eG 2 L w) (En n f w) m0 V0 m V fl := j1
    have h1 := hms m j1.1
    have e74 := h1.1.2.2.1
    refine ⟨m, V, fl, j1, j2, j3, ?_⟩
    show S_X8_restsOfChanges_138 N rec (L_X8_restsOfChanges_138 N rec g) m (nI i) (bI fl) (nI (160 * i + L.length)) = _
    unfold S_X8_restsOfChanges_138
    simp (disch := omega) only [zi_t, zi_f, bnd_t, zg_in, zx, nI_ltI, nI_leI, nI_eq, nI_add, pk_mul, pk_sub, mup_s, mup_c, mup_j, mrw_c, if_pos, if_neg, zm_1, zm_2, zm_3, zm_4, zm_5, zm_6, zm_7, zm_8, zm_9, zf_0, zf_1, zf_2, zf_3, zf_4, zf_5, zf_6, zf_7, zf_8, zf_9, zf_10, zf_14, zf_15, zf_16, zf_18, zf_19, zf_20, zf_24, zf_30, zf_31, zf_32, zf_33, zf_99, zf_100, zf_160, zf_200, zf_287, zf_288, zf_300, zf_1000, zf_1023, zf_1024, zf_1600, zf_3840, zf_25600, zf_36000, zf_1000000, zf_1000000000, zf_2000000000, zf_11560, za_1, za_2, za_4, za_5, za_6, za_7, za_8, za_9, za_10, za_11, za_12, za_14, za_15, za_22, za_23, za_25, za_26, za_27, za_28, za_29, za_30, za_31, za_32, za_33, za_34, za_35, za_41, za_42, za_43, za_44, za_45, za_46, za_47, za_48, za_49, za_61, za_62, za_63, za_64, za_65, za_71, za_72, za_73, za_74, za_75, za_76, za_77, za_78, za_79, za_80, za_81, za_82, za_83, za_84, za_85, za_86, za_87, za_88, za_89, za_90, za_91, za_92, za_93, za_94, za_95, za_96, za_97, za_98, za_99, za_100, za_101, za_102, za_103, za_104, za_105, za_106, za_107, za_108, e74]
