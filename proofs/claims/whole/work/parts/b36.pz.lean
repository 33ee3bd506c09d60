/-! the model's rests -/
abbrev eU (u : Bool) (L : ArL) (w : List Nat) : Nat → Nat → Nat → Prop := eG (wU u) L w
theorem mo_less {N k s p x1' v : Nat} {fl : Bool} {x2 : Int32} {Eg : Nat → Nat → Nat → Prop} {En : Nat → Prop} {m : Mem} {V : Nat → Nat} {r53 : Mem → Int32 → Int32 → Int32 → Option Mem} {r66 : Mem → Int32 → Int32 → Int32 → Int32 → Option Mem} {r86 : Mem → Int32 → Int32 → Int32 → Int32 → Int32 → Option Mem} (hV : TM Eg En m V) (hk : k < 3840) (e75 : m 75 k = nI s) (ha : 32 * p + s < 288) (hv : v ≤ 2001000000) :
    B_X8_rests_168 N r53 r66 r86 m (nI x1') x2 (bI fl) (nI k) (nI p) (nI v) = r86 (mup m 99 (32 * p + s) (nI (if v < V (32 * p + s) then v else V (32 * p + s)))) (nI x1') x2 (bI (fl || decide (v < V (32 * p + s)))) (nI k) (nI (p + 1)) := by
  obtain ⟨e1, e2, e3⟩ := hV _ ha
  have hVl : V (32 * p + s) ≤ 2000000000 := by rcases e2 with ⟨x, _⟩ | ⟨x, _⟩ <;> omega
  unfold B_X8_rests_168 B_X8_rests_197 B_X8_rests_202 B_X8_rests_266
  by_cases c : v < V (32 * p + s)
  · rw [if_pos c, decide_eq_true c, Bool.or_true]
    cases fl with
    | true => simp (disch := omega) only [zi_t, zi_f, bnd_t, zg_in, zx, nI_ltI, nI_leI, nI_eq, nI_add, pk_mul, pk_sub, mup_s, mup_c, mup_j, mrw_c, if_pos, if_neg, zm_1, zm_2, zm_3, zm_4, zm_5, zm_6, zm_7, zm_8, zm_9, zf_0, zf_1, zf_2, zf_3, zf_4, zf_5, zf_6, zf_7, zf_8, zf_9, zf_10, zf_14, zf_15, zf_16, zf_18, zf_19, zf_20, zf_24, zf_30, zf_31, zf_32, zf_33, zf_99, zf_100, zf_160, zf_200, zf_287, zf_288, zf_300, zf_1000, zf_1023, zf_1024, zf_1600, zf_3840, zf_25600, zf_36000, zf_1000000, zf_1000000000, zf_2000000000, zf_11560, za_1, za_2, za_4, za_5, za_6, za_7, za_8, za_9, za_10, za_11, za_12, za_14, za_15, za_22, za_23, za_25, za_26, za_27, za_28, za_29, za_30, za_31, za_32, za_33, za_34, za_35, za_41, za_42, za_43, za_44, za_45, za_46, za_47, za_48, za_49, za_61, za_62, za_63, za_64, za_65, za_71, za_72, za_73, za_74, za_75, za_76, za_77, za_78, za_79, za_80, za_81, za_82, za_83, za_84, za_85, za_86, za_87, za_88, za_89, za_90, za_91, za_92, za_93, za_94, za_95, za_96, za_97, za_98, za_99, za_100, za_101, za_102, za_103, za_104, za_105, za_106, za_107, za_108, bI_t, e75, e1]
    | false => simp (disch := omega) only [zi_t, zi_f, bnd_t, zg_in, zx, nI_ltI, nI_leI, nI_eq, nI_add, pk_mul, pk_sub, mup_s, mup_c, mup_j, mrw_c, if_pos, if_neg, zm_1, zm_2, zm_3, zm_4, zm_5, zm_6, zm_7, zm_8, zm_9, zf_0, zf_1, zf_2, zf_3, zf_4, zf_5, zf_6, zf_7, zf_8, zf_9, zf_10, zf_14, zf_15, zf_16, zf_18, zf_19, zf_20, zf_24, zf_30, zf_31, zf_32, zf_33, zf_99, zf_100, zf_160, zf_200, zf_287, zf_288, zf_300, zf_1000, zf_1023, zf_1024, zf_1600, zf_3840, zf_25600, zf_36000, zf_1000000, zf_1000000000, zf_2000000000, zf_11560, za_1, za_2, za_4, za_5, za_6, za_7, za_8, za_9, za_10, za_11, za_12, za_14, za_15, za_22, za_23, za_25, za_26, za_27, za_28, za_29, za_30, za_31, za_32, za_33, za_34, za_35, za_41, za_42, za_43, za_44, za_45, za_46, za_47, za_48, za_49, za_61, za_62, za_63, za_64, za_65, za_71, za_72, za_73, za_74, za_75, za_76, za_77, za_78, za_79, za_80, za_81, za_82, za_83, za_84, za_85, za_86, za_87, za_88, za_89, za_90, za_91, za_92, za_93, za_94, za_95, za_96, za_97, za_98, za_99, za_100, za_101, za_102, za_103, za_104, za_105, za_106, za_107, za_108, bI_f, bI_t, e75, e1]
  · rw [if_neg c, decide_eq_false c, Bool.or_false]
    cases fl with
    | true => simp (disch := omega) only [zi_t, zi_f, bnd_t, zg_in, zx, nI_ltI, nI_leI, nI_eq, nI_add, pk_mul, pk_sub, mup_s, mup_c, mup_j, mrw_c, if_pos, if_neg, zm_1, zm_2, zm_3, zm_4, zm_5, zm_6, zm_7, zm_8, zm_9, zf_0, zf_1, zf_2, zf_3, zf_4, zf_5, zf_6, zf_7, zf_8, zf_9, zf_10, zf_14, zf_15, zf_16, zf_18, zf_19, zf_20, zf_24, zf_30, zf_31, zf_32, zf_33, zf_99, zf_100, zf_160, zf_200, zf_287, zf_288, zf_300, zf_1000, zf_1023, zf_1024, zf_1600, zf_3840, zf_25600, zf_36000, zf_1000000, zf_1000000000, zf_2000000000, zf_11560, za_1, za_2, za_4, za_5, za_6, za_7, za_8, za_9, za_10, za_11, za_12, za_14, za_15, za_22, za_23, za_25, za_26, za_27, za_28, za_29, za_30, za_31, za_32, za_33, za_34, za_35, za_41, za_42, za_43, za_44, za_45, za_46, za_47, za_48, za_49, za_61, za_62, za_63, za_64, za_65, za_71, za_72, za_73, za_74, za_75, za_76, za_77, za_78, za_79, za_80, za_81, za_82, za_83, za_84, za_85, za_86, za_87, za_88, za_89, za_90, za_91, za_92, za_93, za_94, za_95, za_96, za_97, za_98, za_99, za_100, za_101, za_102, za_103, za_104, za_105, za_106, za_107, za_108, bI_t, e75, e1]
    | false => simp (disch := omega) only [zi_t, zi_f, bnd_t, zg_in, zx, nI_ltI, nI_leI, nI_eq, nI_add, pk_mul, pk_sub, mup_s, mup_c, mup_j, mrw_c, if_pos, if_neg, zm_1, zm_2, zm_3, zm_4, zm_5, zm_6, zm_7, zm_8, zm_9, zf_0, zf_1, zf_2, zf_3, zf_4, zf_5, zf_6, zf_7, zf_8, zf_9, zf_10, zf_14, zf_15, zf_16, zf_18, zf_19, zf_20, zf_24, zf_30, zf_31, zf_32, zf_33, zf_99, zf_100, zf_160, zf_200, zf_287, zf_288, zf_300, zf_1000, zf_1023, zf_1024, zf_1600, zf_3840, zf_25600, zf_36000, zf_1000000, zf_1000000000, zf_2000000000, zf_11560, za_1, za_2, za_4, za_5, za_6, za_7, za_8, za_9, za_10, za_11, za_12, za_14, za_15, za_22, za_23, za_25, za_26, za_27, za_28, za_29, za_30, za_31, za_32, za_33, za_34, za_35, za_41, za_42, za_43, za_44, za_45, za_46, za_47, za_48, za_49, za_61, za_62, za_63, za_64, za_65, za_71, za_72, za_73, za_74, za_75, za_76, za_77, za_78, za_79, za_80, za_81, za_82, za_83, za_84, za_85, za_86, za_87, za_88, za_89, za_90, za_91, za_92, za_93, za_94, za_95, za_96, za_97, za_98, za_99, za_100, za_101, za_102, za_103, za_104, za_105, za_106, za_107, za_108, bI_f, e75, e1]
def PB (u : Bool) (L : ArL) (w : List Nat) (V0 V : Nat → Nat) (k : Nat) : Prop := ∀ j q p r, j < k → L[j]? = some q → p ≤ w.length → bhd u w q p = some r → V0 (32 * r + too q.1) < 2000000000 → V (32 * p + fr q.1) ≤ V0 (32 * r + too q.1) + q.2
def PC (u : Bool) (w : List Nat) (q : Nat × Nat) (V0 V : Nat → Nat) (k : Nat) : Prop := ∀ p r, p < k → p ≤ w.length → bhd u w q p = some r → V0 (32 * r + too q.1) < 2000000000 → V (32 * p + fr q.1) ≤ V0 (32 * r + too q.1) + q.2
theorem mo_rPass {N i n : Nat} {u : Bool} {f : Nat → Bool} {L : ArL} {w : List Nat} {V0 : Nat → Nat} {m0 m : Mem} {rec : Mem → Int32 → Int32 → Int32 → Option Mem} (hN : 40000 < N) (hi : i < 24) (h : MSt m i n f L w) (hok : DOK n L) (hl : L.length ≤ 160) (hn : n ≤ 32) (hwl : w.length ≤ 8) (hwx : ∀ x, x ∈ w → x < 8) (hV : TM (eU u L w) (En n f w) m V0) (hf : Fx 99 100 [] m0 m) :
    ∃ m' V' fl, L_X8_rests_66 N rec N m (nI i) (bI u) (nI 0) (nI (160 * i)) = rec m' (nI i) (bI u) (bI fl) ∧ Fx 99 100 [] m0 m' ∧ MSt m' i n f L w ∧ TM (eU u L w) (En n f w) m' V' ∧ (∀ x, V' x ≤ V0 x) ∧ PB u L w V0 V' L.length ∧ (fl = false → V' = V0) ∧ (fl = true → ∃ a, a < 288 ∧ V' a < V0 a) := by
  have hms : ∀ m', Fx 99 100 [] m m' → MSt m' i n f L w := fun m' hf' => h.cg (fun k a b => hf'.1 k (by omega) (by omega)) (hf'.2 2 (by simp))
  refine loopF (σ := Mem × (Nat → Nat) × Bool) (fun g x j => L_X8_rests_66 N rec g x.1 (nI i) (bI u) (bI x.2.2) (nI (160 * i + j))) L.length (fun j x => Fx 99 100 [] m x.1 ∧ TM (eU u L w) (En n f w) x.1 x.2.1 ∧ (∀ y, x.2.1 y ≤ V0 y) ∧ PB u L w V0 x.2.1 j ∧ (x.2.2 = false → x.2.1 = V0) ∧ (x.2.2 = true → ∃ a, a < 288 ∧ x.2.1 a < V0 a)) (fun o => ∃ m' V' fl, o = rec m' (nI i) (bI u) (bI fl) ∧ Fx 99 100 [] m0 m' ∧ MSt m' i n f L w ∧ TM (eU u L w) (En n f w) m' V' ∧ (∀ x, V' x ≤ V0 x) ∧ PB u L w V0 V' L.length ∧ (fl = false → V' = V0) ∧ (fl = true → ∃ a, a < 288 ∧ V' a < V0 a)) ?_ ?_ N 0 (m, V0, false) (Nat.zero_le _) ⟨Fx.rf, hV, fun _ => Nat.le_refl _, fun j q p r hj => absurd hj (Nat.not_lt_zero _), fun _ => rfl, fun h => by cases h⟩ (by omega)
  · rintro g j ⟨m1, V1, fl⟩ hj ⟨i1, i2, i3, i4, i5, i6⟩
    have i1 : Fx 99 100 [] m m1 := i1
    have i2 : TM (eU u L w) (En n f w) m1 V1 := i2
    have i3 : ∀ y, V1 y ≤ V0 y := i3
    have i4 : PB u L w V0 V1 j := i4
    have i5 : fl = false → V1 = V0 := i5
    have i6 : fl = true → ∃ a, a < 288 ∧ V1 a < V0 a := i6
    have h1 := hms m1 i1
    obtain ⟨q, hq⟩ : ∃ q, L[j]? = some q := ⟨_, List.getElem?_eq_getElem hj⟩
    have hqm := hok q (List.mem_of_getElem? hq)
    have hf1 := hqm.2.1
    have ht1 := hqm.2.2.1
    have hc1 := hqm.2.2.2.2.2
    have e74 := h1.1.2.2.1
    left
    show ∃ s' : Mem × (Nat → Nat) × Bool, _ ∧ S_X8_rests_66 N rec (L_X8_rests_66 N rec g) m1 (nI i) (bI u) (bI fl) (nI (160 * i + j)) = _
    unfold S_X8_rests_66
    simp (disch := omega) only [zi_t, zi_f, bnd_t, zg_in, zx, nI_ltI, nI_leI, nI_eq, nI_add, pk_mul, pk_sub, mup_s, mup_c, mup_j, mrw_c, if_pos, if_neg, zm_1, zm_2, zm_3, zm_4, zm_5, zm_6, zm_7, zm_8, zm_9, zf_0, zf_1, zf_2, zf_3, zf_4, zf_5, zf_6, zf_7, zf_8, zf_9, zf_10, zf_14, zf_15, zf_16, zf_18, zf_19, zf_20, zf_24, zf_30, zf_31, zf_32, zf_33, zf_99, zf_100, zf_160, zf_200, zf_287, zf_288, zf_300, zf_1000, zf_1023, zf_1024, zf_1600, zf_3840, zf_25600, zf_36000, zf_1000000, zf_1000000000, zf_2000000000, zf_11560, za_1, za_2, za_4, za_5, za_6, za_7, za_8, za_9, za_10, za_11, za_12, za_14, za_15, za_22, za_23, za_25, za_26, za_27, za_28, za_29, za_30, za_31, za_32, za_33, za_34, za_35, za_41, za_42, za_43, za_44, za_45, za_46, za_47, za_48, za_49, za_61, za_62, za_63, za_64, za_65, za_71, za_72, za_73, za_74, za_75, za_76, za_77, za_78, za_79, za_80, za_81, za_82, za_83, za_84, za_85, za_86, za_87, za_88, za_89, za_90, za_91, za_92, za_93, za_94, za_95, za_96, za_97, za_98, za_99, za_100, za_101, za_102, za_103, za_104, za_105, za_106, za_107, za_108, e74]
    refine loopF (σ := Mem × (Nat → Nat) × Bool) (fun k x p => L_X8_rests_86 N rec (L_X8_rests_66 N rec g) k x.1 (nI i) (bI u) (bI x.2.2) (nI (160 * i + j)) (nI p)) (w.length + 1) (fun p x => Fx 99 100 [] m x.1 ∧ TM (eU u L w) (En n f w) x.1 x.2.1 ∧ (∀ y, x.2.1 y ≤ V0 y) ∧ PB u L w V0 x.2.1 j ∧ (x.2.2 = false → x.2.1 = V0) ∧ (x.2.2 = true → ∃ a, a < 288 ∧ x.2.1 a < V0 a) ∧ PC u w q V0 x.2.1 p) (fun o => ∃ s' : Mem × (Nat → Nat) × Bool, (Fx 99 100 [] m s'.1 ∧ TM (eU u L w) (En n f w) s'.1 s'.2.1 ∧ (∀ y, s'.2.1 y ≤ V0 y) ∧ PB u L w V0 s'.2.1 (j + 1) ∧ (s'.2.2 = false → s'.2.1 = V0) ∧ (s'.2.2 = true → ∃ a, a < 288 ∧ s'.2.1 a < V0 a)) ∧ o = L_X8_rests_66 N rec g s'.1 (nI i) (bI u) (bI s'.2.2) (nI (160 * i + (j + 1)))) ?_ ?_ N 0 (m1, V1, fl) (Nat.zero_le _) ⟨i1, i2, i3, i4, i5, i6, fun p r hp => absurd hp (Nat.not_lt_zero _)⟩ (by omega)
    · rintro k p ⟨m2, V2, fl2⟩ hp ⟨j1, j2, j3, j4, j5, j6, j7⟩
      have j1 : Fx 99 100 [] m m2 := j1
      have j2 : TM (eU u L w) (En n f w) m2 V2 := j2
      have j3 : ∀ y, V2 y ≤ V0 y := j3
      have j4 : PB u L w V0 V2 j := j4
      have j5 : fl2 = false → V2 = V0 := j5
      have j6 : fl2 = true → ∃ a, a < 288 ∧ V2 a < V0 a := j6
      have j7 : PC u w q V0 V2 p := j7
      have h2 := hms m2 j1
      have hp' : p ≤ w.length := by omega
      have e702 := h2.2.1
      have hbh := mo_behind (N := N) (u := u) h2 hi hq (by omega) hok hwl hwx hp'
      obtain ⟨e75, e76, e77, e78, e79⟩ := h2.1.2.2.2 j q hq
      have ha : 32 * p + fr q.1 < 288 := by omega
      left
      show ∃ s' : Mem × (Nat → Nat) × Bool, _ ∧ S_X8_rests_86 N rec (L_X8_rests_66 N rec g) (L_X8_rests_86 N rec (L_X8_rests_66 N rec g) k) m2 (nI i) (bI u) (bI fl2) (nI (160 * i + j)) (nI p) = L_X8_rests_86 N rec (L_X8_rests_66 N rec g) k s'.1 (nI i) (bI u) (bI s'.2.2) (nI (160 * i + j)) (nI (p + 1))
      have hfin : ∀ v, v ≤ 2001000000 → (v < V2 (32 * p + fr q.1) → Wy (eU u L w) (En n f w) (32 * p + fr q.1) v ∧ v < 2000000000) → (∀ r, bhd u w q p = some r → V0 (32 * r + too q.1) < 2000000000 → v ≤ V0 (32 * r + too q.1) + q.2) → ∀ o, o = B_X8_rests_168 N rec (L_X8_rests_66 N rec g) (L_X8_rests_86 N rec (L_X8_rests_66 N rec g) k) m2 (nI i) (bI u) (bI fl2) (nI (160 * i + j)) (nI p) (nI v) → ∃ s' : Mem × (Nat → Nat) × Bool, (Fx 99 100 [] m s'.1 ∧ TM (eU u L w) (En n f w) s'.1 s'.2.1 ∧ (∀ y, s'.2.1 y ≤ V0 y) ∧ PB u L w V0 s'.2.1 j ∧ (s'.2.2 = false → s'.2.1 = V0) ∧ (s'.2.2 = true → ∃ a, a < 288 ∧ s'.2.1 a < V0 a) ∧ PC u w q V0 s'.2.1 (p + 1)) ∧ o = L_X8_rests_86 N rec (L_X8_rests_66 N rec g) k s'.1 (nI i) (bI u) (bI s'.2.2) (nI (160 * i + j)) (nI (p + 1)) := by
        intro v hv hvw hvr o ho
        refine ⟨(_, lwV V2 (32 * p + fr q.1) v, fl2 || decide (v < V2 (32 * p + fr q.1))), ⟨j1.up (by omega) (by omega) (by omega), tm_up j2 ha hvw, fun y => Nat.le_trans (lwV_le y) (j3 y), fun j' q' p' r hj' hq' hp'' hr hlt => Nat.le_trans (lwV_le _) (j4 j' q' p' r hj' hq' hp'' hr hlt), fun hfl => ?_, fun hfl => ?_, fun p' r hpp hp'' hr hlt => ?_⟩, ?_⟩
        · have hfl : (fl2 || decide (v < V2 (32 * p + fr q.1))) = false := hfl
          rw [Bool.or_eq_false_iff] at hfl
          have hnl := of_decide_eq_false hfl.2
          show lwV V2 (32 * p + fr q.1) v = V0
          rw [← j5 hfl.1]
          funext y
          unfold lwV
          by_cases e : y = 32 * p + fr q.1
          · rw [if_pos e, if_neg hnl, e]
          · rw [if_neg e]
        · have hfl : (fl2 || decide (v < V2 (32 * p + fr q.1))) = true := hfl
          rw [Bool.or_eq_true] at hfl
          rcases hfl with hfl | hfl
          · obtain ⟨a, ha, hlt⟩ := j6 hfl
            exact ⟨a, ha, Nat.lt_of_le_of_lt (lwV_le a) hlt⟩
          · have hlt := of_decide_eq_true hfl
            have h3 := j3 (32 * p + fr q.1)
            have h4 : lwV V2 (32 * p + fr q.1) v (32 * p + fr q.1) ≤ v := lwV_at
            exact ⟨32 * p + fr q.1, ha, by show lwV V2 (32 * p + fr q.1) v (32 * p + fr q.1) < _; omega⟩
        · by_cases e : p' = p
          · subst e
            exact Nat.le_trans lwV_at (hvr r hr hlt)
          · exact Nat.le_trans (lwV_le _) (j7 p' r (by omega) hp'' hr hlt)
        · rw [ho]
          exact mo_less j2 (by omega) e75 ha hv
      cases hb : bhd u w q p with
      | none =>
        rw [hb] at hbh
        have hbh : F_X8_behind N m2 (nI (160 * i + j)) (nI p) (bI u) = some (nM, m2) := hbh
        refine hfin 2000000000 (by omega) (fun hlt => ?_) (fun r hr => by rw [hb] at hr; cases hr) _ ?_
        · rcases (j2 _ ha).2.1 with ⟨x, _⟩ | ⟨x, _⟩ <;> omega
        · unfold S_X8_rests_86 B_X8_rests_136
          simp (disch := omega) only [zi_t, zi_f, bnd_t, zg_in, zx, nI_ltI, nI_leI, nI_eq, nI_add, pk_mul, pk_sub, mup_s, mup_c, mup_j, mrw_c, if_pos, if_neg, zm_1, zm_2, zm_3, zm_4, zm_5, zm_6, zm_7, zm_8, zm_9, zf_0, zf_1, zf_2, zf_3, zf_4, zf_5, zf_6, zf_7, zf_8, zf_9, zf_10, zf_14, zf_15, zf_16, zf_18, zf_19, zf_20, zf_24, zf_30, zf_31, zf_32, zf_33, zf_99, zf_100, zf_160, zf_200, zf_287, zf_288, zf_300, zf_1000, zf_1023, zf_1024, zf_1600, zf_3840, zf_25600, zf_36000, zf_1000000, zf_1000000000, zf_2000000000, zf_11560, za_1, za_2, za_4, za_5, za_6, za_7, za_8, za_9, za_10, za_11, za_12, za_14, za_15, za_22, za_23, za_25, za_26, za_27, za_28, za_29, za_30, za_31, za_32, za_33, za_34, za_35, za_41, za_42, za_43, za_44, za_45, za_46, za_47, za_48, za_49, za_61, za_62, za_63, za_64, za_65, za_71, za_72, za_73, za_74, za_75, za_76, za_77, za_78, za_79, za_80, za_81, za_82, za_83, za_84, za_85, za_86, za_87, za_88, za_89, za_90, za_91, za_92, za_93, za_94, za_95, za_96, za_97, za_98, za_99, za_100, za_101, za_102, za_103, za_104, za_105, za_106, za_107, za_108, e702]
          rw [cal_t hbh]
          simp (disch := omega) only [zi_t, zi_f, bnd_t, zg_in, zx, nI_ltI, nI_leI, nI_eq, nI_add, pk_mul, pk_sub, mup_s, mup_c, mup_j, mrw_c, if_pos, if_neg, zm_1, zm_2, zm_3, zm_4, zm_5, zm_6, zm_7, zm_8, zm_9, zf_0, zf_1, zf_2, zf_3, zf_4, zf_5, zf_6, zf_7, zf_8, zf_9, zf_10, zf_14, zf_15, zf_16, zf_18, zf_19, zf_20, zf_24, zf_30, zf_31, zf_32, zf_33, zf_99, zf_100, zf_160, zf_200, zf_287, zf_288, zf_300, zf_1000, zf_1023, zf_1024, zf_1600, zf_3840, zf_25600, zf_36000, zf_1000000, zf_1000000000, zf_2000000000, zf_11560, za_1, za_2, za_4, za_5, za_6, za_7, za_8, za_9, za_10, za_11, za_12, za_14, za_15, za_22, za_23, za_25, za_26, za_27, za_28, za_29, za_30, za_31, za_32, za_33, za_34, za_35, za_41, za_42, za_43, za_44, za_45, za_46, za_47, za_48, za_49, za_61, za_62, za_63, za_64, za_65, za_71, za_72, za_73, za_74, za_75, za_76, za_77, za_78, za_79, za_80, za_81, za_82, za_83, za_84, za_85, za_86, za_87, za_88, za_89, za_90, za_91, za_92, za_93, za_94, za_95, za_96, za_97, za_98, za_99, za_100, za_101, za_102, za_103, za_104, za_105, za_106, za_107, za_108]
      | some r =>
        rw [hb] at hbh
        have hbh : F_X8_behind N m2 (nI (160 * i + j)) (nI p) (bI u) = some (nI r, m2) := hbh
        obtain ⟨hr, hEg, _⟩ := bhd_eg (List.mem_of_getElem? hq) hp' hb
        have hbl : 32 * r + too q.1 < 288 := by omega
        obtain ⟨b1, b2, b3⟩ := j2 _ hbl
        have hbv : V2 (32 * r + too q.1) ≤ 2000000000 := by rcases b2 with ⟨x, _⟩ | ⟨x, _⟩ <;> omega
        have h30 := j3 (32 * r + too q.1)
        by_cases cF : V2 (32 * r + too q.1) = 2000000000
        · refine hfin 2000000000 (by omega) (fun hlt => ?_) (fun r' hr' hlt => ?_) _ ?_
          · rcases (j2 _ ha).2.1 with ⟨x, _⟩ | ⟨x, _⟩ <;> omega
          · rw [hb] at hr'
            have e := Option.some.inj hr'
            subst e
            omega
          · rw [cF] at b1
            unfold S_X8_rests_86 B_X8_rests_136
            simp (disch := omega) only [zi_t, zi_f, bnd_t, zg_in, zx, nI_ltI, nI_leI, nI_eq, nI_add, pk_mul, pk_sub, mup_s, mup_c, mup_j, mrw_c, if_pos, if_neg, zm_1, zm_2, zm_3, zm_4, zm_5, zm_6, zm_7, zm_8, zm_9, zf_0, zf_1, zf_2, zf_3, zf_4, zf_5, zf_6, zf_7, zf_8, zf_9, zf_10, zf_14, zf_15, zf_16, zf_18, zf_19, zf_20, zf_24, zf_30, zf_31, zf_32, zf_33, zf_99, zf_100, zf_160, zf_200, zf_287, zf_288, zf_300, zf_1000, zf_1023, zf_1024, zf_1600, zf_3840, zf_25600, zf_36000, zf_1000000, zf_1000000000, zf_2000000000, zf_11560, za_1, za_2, za_4, za_5, za_6, za_7, za_8, za_9, za_10, za_11, za_12, za_14, za_15, za_22, za_23, za_25, za_26, za_27, za_28, za_29, za_30, za_31, za_32, za_33, za_34, za_35, za_41, za_42, za_43, za_44, za_45, za_46, za_47, za_48, za_49, za_61, za_62, za_63, za_64, za_65, za_71, za_72, za_73, za_74, za_75, za_76, za_77, za_78, za_79, za_80, za_81, za_82, za_83, za_84, za_85, za_86, za_87, za_88, za_89, za_90, za_91, za_92, za_93, za_94, za_95, za_96, za_97, za_98, za_99, za_100, za_101, za_102, za_103, za_104, za_105, za_106, za_107, za_108, e702]
            rw [cal_t hbh]
            simp (disch := omega) only [zi_t, zi_f, bnd_t, zg_in, zx, nI_ltI, nI_leI, nI_eq, nI_add, pk_mul, pk_sub, mup_s, mup_c, mup_j, mrw_c, if_pos, if_neg, zm_1, zm_2, zm_3, zm_4, zm_5, zm_6, zm_7, zm_8, zm_9, zf_0, zf_1, zf_2, zf_3, zf_4, zf_5, zf_6, zf_7, zf_8, zf_9, zf_10, zf_14, zf_15, zf_16, zf_18, zf_19, zf_20, zf_24, zf_30, zf_31, zf_32, zf_33, zf_99, zf_100, zf_160, zf_200, zf_287, zf_288, zf_300, zf_1000, zf_1023, zf_1024, zf_1600, zf_3840, zf_25600, zf_36000, zf_1000000, zf_1000000000, zf_2000000000, zf_11560, za_1, za_2, za_4, za_5, za_6, za_7, za_8, za_9, za_10, za_11, za_12, za_14, za_15, za_22, za_23, za_25, za_26, za_27, za_28, za_29, za_30, za_31, za_32, za_33, za_34, za_35, za_41, za_42, za_43, za_44, za_45, za_46, za_47, za_48, za_49, za_61, za_62, za_63, za_64, za_65, za_71, za_72, za_73, za_74, za_75, za_76, za_77, za_78, za_79, za_80, za_81, za_82, za_83, za_84, za_85, za_86, za_87, za_88, za_89, za_90, za_91, za_92, za_93, za_94, za_95, za_96, za_97, za_98, za_99, za_100, za_101, za_102, za_103, za_104, za_105, za_106, za_107, za_108, e79, b1]
        · refine hfin (V2 (32 * r + too q.1) + q.2) (by omega) (fun hlt => ?_) (fun r' hr' hlt => ?_) _ ?_
          · have h5 : V2 (32 * p + fr q.1) ≤ 2000000000 := by rcases (j2 _ ha).2.1 with ⟨x, _⟩ | ⟨x, _⟩ <;> omega
            rcases b2 with ⟨x, _⟩ | ⟨x, y⟩
            · exact absurd x cF
            · have e := wy_st (⟨_, hEg⟩ : eU u L w (32 * p + fr q.1) q.2 (32 * r + too q.1)) y
              rw [Nat.add_comm q.2 (V2 (32 * r + too q.1))] at e
              exact ⟨e, by omega⟩
          · rw [hb] at hr'
            have e := Option.some.inj hr'
            subst e
            omega
          · unfold S_X8_rests_86
            simp (disch := omega) only [zi_t, zi_f, bnd_t, zg_in, zx, nI_ltI, nI_leI, nI_eq, nI_add, pk_mul, pk_sub, mup_s, mup_c, mup_j, mrw_c, if_pos, if_neg, zm_1, zm_2, zm_3, zm_4, zm_5, zm_6, zm_7, zm_8, zm_9, zf_0, zf_1, zf_2, zf_3, zf_4, zf_5, zf_6, zf_7, zf_8, zf_9, zf_10, zf_14, zf_15, zf_16, zf_18, zf_19, zf_20, zf_24, zf_30, zf_31, zf_32, zf_33, zf_99, zf_100, zf_160, zf_200, zf_287, zf_288, zf_300, zf_1000, zf_1023, zf_1024, zf_1600, zf_3840, zf_25600, zf_36000, zf_1000000, zf_1000000000, zf_2000000000, zf_11560, za_1, za_2, za_4, za_5, za_6, za_7, za_8, za_9, za_10, za_11, za_12, za_14, za_15, za_22, za_23, za_25, za_26, za_27, za_28, za_29, za_30, za_31, za_32, za_33, za_34, za_35, za_41, za_42, za_43, za_44, za_45, za_46, za_47, za_48, za_49, za_61, za_62, za_63, za_64, za_65, za_71, za_72, za_73, za_74, za_75, za_76, za_77, za_78, za_79, za_80, za_81, za_82, za_83, za_84, za_85, za_86, za_87, za_88, za_89, za_90, za_91, za_92, za_93, za_94, za_95, za_96, za_97, za_98, za_99, za_100, za_101, za_102, za_103, za_104, za_105, za_106, za_107, za_108, e702]
            rw [cal_t hbh]
            simp (disch := omega) only [zi_t, zi_f, bnd_t, zg_in, zx, nI_ltI, nI_leI, nI_eq, nI_add, pk_mul, pk_sub, mup_s, mup_c, mup_j, mrw_c, if_pos, if_neg, zm_1, zm_2, zm_3, zm_4, zm_5, zm_6, zm_7, zm_8, zm_9, zf_0, zf_1, zf_2, zf_3, zf_4, zf_5, zf_6, zf_7, zf_8, zf_9, zf_10, zf_14, zf_15, zf_16, zf_18, zf_19, zf_20, zf_24, zf_30, zf_31, zf_32, zf_33, zf_99, zf_100, zf_160, zf_200, zf_287, zf_288, zf_300, zf_1000, zf_1023, zf_1024, zf_1600, zf_3840, zf_25600, zf_36000, zf_1000000, zf_1000000000, zf_2000000000, zf_11560, za_1, za_2, za_4, za_5, za_6, za_7, za_8, za_9, za_10, za_11, za_12, za_14, za_15, za_22, za_23, za_25, za_26, za_27, za_28, za_29, za_30, za_31, za_32, za_33, za_34, za_35, za_41, za_42, za_43, za_44, za_45, za_46, za_47, za_48, za_49, za_61, za_62, za_63, za_64, za_65, za_71, za_72, za_73, za_74, za_75, za_76, za_77, za_78, za_79, za_80, za_81, za_82, za_83, za_84, za_85, za_86, za_87, za_88, za_89, za_90, za_91, za_92, za_93, za_94, za_95, za_96, za_97, za_98, za_99, za_100, za_101, za_102, za_103, za_104, za_105, za_106, za_107, za_108, e78, e79, b1]
    · rintro k ⟨m2, V2, fl2⟩ ⟨j1, j2, j3, j4, j5, j6, j7⟩
      have j1 : Fx 99 100 [] m m2 := j1
      have h2 := hms m2 j1
      have e702 := h2.2.1
      refine ⟨(m2, V2, fl2), ⟨j1, j2, j3, fun j' q' p' r hj' hq' hp' hr hlt => ?_, j5, j6⟩, ?_⟩
      · by_cases e : j' = j
        · rw [e, hq] at hq'
          have e2 := Option.some.inj hq'
          subst e2
          exact j7 p' r (by omega) hp' hr hlt
        · exact j4 j' q' p' r (by omega) hq' hp' hr hlt
      · show S_X8_rests_86 N rec (L_X8_rests_66 N rec g) (L_X8_rests_86 N rec (L_X8_rests_66 N rec g) k) m2 (nI i) (bI u) (bI fl2) (nI (160 * i + j)) (nI (w.length + 1)) = _
        unfold S_X8_rests_86
        simp (disch := omega) only [zi_t, zi_f, bnd_t, zg_in, zx, nI_ltI, nI_leI, nI_eq, nI_add, pk_mul, pk_sub, mup_s, mup_c, mup_j, mrw_c, if_pos, if_neg, zm_1, zm_2, zm_3, zm_4, zm_5, zm_6, zm_7, zm_8, zm_9, zf_0, zf_1, zf_2, zf_3, zf_4, zf_5, zf_6, zf_7, zf_8, zf_9, zf_10, zf_14, zf_15, zf_16, zf_18, zf_19, zf_20, zf_24, zf_30, zf_31, zf_32, zf_33, zf_99, zf_100, zf_160, zf_200, zf_287, zf_288, zf_300, zf_1000, zf_1023, zf_1024, zf_1600, zf_3840, zf_25600, zf_36000, zf_1000000, zf_1000000000, zf_2000000000, zf_11560, za_1, za_2, za_4, za_5, za_6, za_7, za_8, za_9, za_10, za_11, za_12, za_14, za_15, za_22, za_23, za_25, za_26, za_27, za_28, za_29, za_30, za_31, za_32, za_33, za_34, za_35, za_41, za_42, za_43, za_44, za_45, za_46, za_47, za_48, za_49, za_61, za_62, za_63, za_64, za_65, za_71, za_72, za_73, za_74, za_75, za_76, za_77, za_78, za_79, za_80, za_81, za_82, za_83, za_84, za_85, za_86, za_87, za_88, za_89, za_90, za_91, za_92, za_93, za_94, za_95, za_96, za_97, za_98, za_99, za_100, za_101, za_102, za_103, za_104, za_105, za_106, za_107, za_108, e702]
        rfl
  · rintro g ⟨m1, V1, fl⟩ ⟨i1, i2, i3, i4, i5, i6⟩
    have i1 : Fx 99 100 [] m m1 := i1
    have h1 := hms m1 i1
    have e74 := h1.1.2.2.1
    refine ⟨m1, V1, fl, ?_, hf.tr i1, h1, i2, i3, i4, i5, i6⟩
    show S_X8_rests_66 N rec (L_X8_rests_66 N rec g) m1 (nI i) (bI u) (bI fl) (nI (160 * i + L.length)) = _
    unfold S_X8_rests_66
    simp (disch := omega) only [zi_t, zi_f, bnd_t, zg_in, zx, nI_ltI, nI_leI, nI_eq, nI_add, pk_mul, pk_sub, mup_s, mup_c, mup_j, mrw_c, if_pos, if_neg, zm_1, zm_2, zm_3, zm_4, zm_5, zm_6, zm_7, zm_8, zm_9, zf_0, zf_1, zf_2, zf_3, zf_4, zf_5, zf_6, zf_7, zf_8, zf_9, zf_10, zf_14, zf_15, zf_16, zf_18, zf_19, zf_20, zf_24, zf_30, zf_31, zf_32, zf_33, zf_99, zf_100, zf_160, zf_200, zf_287, zf_288, zf_300, zf_1000, zf_1023, zf_1024, zf_1600, zf_3840, zf_25600, zf_36000, zf_1000000, zf_1000000000, zf_2000000000, zf_11560, za_1, za_2, za_4, za_5, za_6, za_7, za_8, za_9, za_10, za_11, za_12, za_14, za_15, za_22, za_23, za_25, za_26, za_27, za_28, za_29, za_30, za_31, za_32, za_33, za_34, za_35, za_41, za_42, za_43, za_44, za_45, za_46, za_47, za_48, za_49, za_61, za_62, za_63, za_64, za_65, za_71, za_72, za_73, za_74, za_75, za_76, za_77, za_78, za_79, za_80, za_81, za_82, za_83, za_84, za_85, za_86, za_87, za_88, za_89, za_90, za_91, za_92, za_93, za_94, za_95, za_96, za_97, za_98, za_99, za_100, za_101, za_102, za_103, za_104, za_105, za_106, za_107, za_108, e74]
