/-! the model goes by a letter at what it costs -/
def GH (way : Nat) (L : ArL) (w : List Nat) (δ : Nat → Nat) (ρ : List Nat) (m0 m : Mem) (T : Nat → Nat) (lv : Nat) : Prop := Fx 101 102 [] m0 m ∧ HV m 101 T (SdZ way L w ρ) ∧ (lv = 2000000000 ∨ ∃ b k, SdZ way L w ρ b k ∧ δ b < 1000000000 ∧ lv = k + δ b) ∧ lv ≤ 2000000000
def GPc (u : Bool) (L : ArL) (w : List Nat) (δ V T : Nat → Nat) (x lv J : Nat) : Prop := ∀ j q p r, j < J → L[j]? = some q → syW (wU u) q = x → p ≤ w.length → bhd u w q p = some r → V (32 * p + fr q.1) < 2000000000 → δ (32 * r + too q.1) < 1000000000 → T (32 * r + too q.1) ≤ V (32 * p + fr q.1) + q.2 ∧ lv ≤ V (32 * p + fr q.1) + q.2 + δ (32 * r + too q.1)
theorem GH.mx {way i n lv : Nat} {L : ArL} {w : List Nat} {δ T : Nat → Nat} {ρ : List Nat} {m0 m : Mem} {f : Nat → Bool} (h : GH way L w δ ρ m0 m T lv) (hM : MLk m0 i n f L w δ) : MLk m i n f L w δ := hM.cg (fun k a b => h.1.1 k (by omega) (by omega)) (h.1.2 2 (by simp))
theorem mo_goesHere {N i n x : Nat} {u : Bool} {f : Nat → Bool} {L : ArL} {w : List Nat} {δ : Nat → Nat} {m0 : Mem} {ρ : List Nat} (hN : 40000 < N) (hG : GD i n L w) (hM0 : MLk m0 i n f L w δ) (hδ : IsD (eU u L w) (En n f w) δ) (h0 : δ 0 < 1000000000) (hB : BdZ (wU u) L w) (hρ : ρ.length ≤ 287) (hx : x < 8) (hTB : TBs (wU u) L w δ m0 ρ) :
    ∃ lv m', F_X8_goesHere N m0 (nI i) (bI u) (nI x) = some (nI lv, m') ∧ lv ≤ 2000000000 ∧ Fx 101 102 [] m0 m' ∧ (lv = δ 0 ↔ ∃ b, SdR (wU u) L w δ true (x :: ρ) b) ∧ TTs (wU u) L w δ m' (x :: ρ) := by
  have hG' := hG
  obtain ⟨hi, hok, hl, hn, hwl, hwx, _⟩ := hG'
  obtain ⟨V, hV, hmin⟩ := hTB
  unfold F_X8_goesHere
  refine loopF (fun g (m : Mem) c => L_X8_goesHere_3 N g m (nI i) (bI u) (nI x) (nI c)) 288 (fun c m' => Fx 101 102 [] m0 m' ∧ ∀ a, a < c → m' 101 a = nI 2000000000) (fun o => ∃ lv m', o = some (nI lv, m') ∧ lv ≤ 2000000000 ∧ Fx 101 102 [] m0 m' ∧ (lv = δ 0 ↔ ∃ b, SdR (wU u) L w δ true (x :: ρ) b) ∧ TTs (wU u) L w δ m' (x :: ρ)) ?_ ?_ N 0 m0 (by omega) ⟨Fx.rf, fun a ha => absurd ha (Nat.not_lt_zero _)⟩ (by omega)
  · rintro g c m1 hc ⟨i1, i2⟩
    left
    refine ⟨mup m1 101 c (nI 2000000000), ⟨i1.up (by omega) (by omega) (by omega), fun a ha => ?_⟩, ?_⟩
    · rw [mup_if]
      by_cases e : a = c
      · rw [if_pos e]
      · rw [if_neg e]; exact i2 a (by omega)
    · show S_X8_goesHere_3 N (L_X8_goesHere_3 N g) m1 (nI i) (bI u) (nI x) (nI c) = _
      unfold S_X8_goesHere_3
      simp (disch := omega) only [zi_t, zi_f, bnd_t, zg_in, zx, nI_ltI, nI_leI, nI_eq, nI_add, pk_mul, pk_sub, mup_s, mup_c, mup_j, mrw_c, if_pos, if_neg, zm_1, zm_2, zm_3, zm_4, zm_5, zm_6, zm_7, zm_8, zm_9, zf_0, zf_1, zf_2, zf_3, zf_4, zf_5, zf_6, zf_7, zf_8, zf_9, zf_10, zf_14, zf_15, zf_16, zf_18, zf_19, zf_20, zf_24, zf_30, zf_31, zf_32, zf_33, zf_99, zf_100, zf_160, zf_200, zf_287, zf_288, zf_300, zf_1000, zf_1023, zf_1024, zf_1600, zf_3840, zf_25600, zf_36000, zf_1000000, zf_1000000000, zf_2000000000, zf_11560, za_1, za_2, za_4, za_5, za_6, za_7, za_8, za_9, za_10, za_11, za_12, za_14, za_15, za_22, za_23, za_25, za_26, za_27, za_28, za_29, za_30, za_31, za_32, za_33, za_34, za_35, za_41, za_42, za_43, za_44, za_45, za_46, za_47, za_48, za_49, za_61, za_62, za_63, za_64, za_65, za_71, za_72, za_73, za_74, za_75, za_76, za_77, za_78, za_79, za_80, za_81, za_82, za_83, za_84, za_85, za_86, za_87, za_88, za_89, za_90, za_91, za_92, za_93, za_94, za_95, za_96, za_97, za_98, za_99, za_100, za_101, za_102, za_103, za_104, za_105, za_106, za_107, za_108]
  · rintro g ma ⟨ia, ib⟩
    show ∃ lv m', S_X8_goesHere_3 N (L_X8_goesHere_3 N g) ma (nI i) (bI u) (nI x) (nI 288) = some (nI lv, m') ∧ _
    unfold S_X8_goesHere_3
    simp (disch := omega) only [zi_t, zi_f, bnd_t, zg_in, zx, nI_ltI, nI_leI, nI_eq, nI_add, pk_mul, pk_sub, mup_s, mup_c, mup_j, mrw_c, if_pos, if_neg, zm_1, zm_2, zm_3, zm_4, zm_5, zm_6, zm_7, zm_8, zm_9, zf_0, zf_1, zf_2, zf_3, zf_4, zf_5, zf_6, zf_7, zf_8, zf_9, zf_10, zf_14, zf_15, zf_16, zf_18, zf_19, zf_20, zf_24, zf_30, zf_31, zf_32, zf_33, zf_99, zf_100, zf_160, zf_200, zf_287, zf_288, zf_300, zf_1000, zf_1023, zf_1024, zf_1600, zf_3840, zf_25600, zf_36000, zf_1000000, zf_1000000000, zf_2000000000, zf_11560, za_1, za_2, za_4, za_5, za_6, za_7, za_8, za_9, za_10, za_11, za_12, za_14, za_15, za_22, za_23, za_25, za_26, za_27, za_28, za_29, za_30, za_31, za_32, za_33, za_34, za_35, za_41, za_42, za_43, za_44, za_45, za_46, za_47, za_48, za_49, za_61, za_62, za_63, za_64, za_65, za_71, za_72, za_73, za_74, za_75, za_76, za_77, za_78, za_79, za_80, za_81, za_82, za_83, za_84, za_85, za_86, za_87, za_88, za_89, za_90, za_91, za_92, za_93, za_94, za_95, za_96, za_97, za_98, za_99, za_100, za_101, za_102, za_103, za_104, za_105, za_106, za_107, za_108]
    refine loopF (σ := Mem × (Nat → Nat) × Nat) (fun g s j => L_X8_goesHere_39 N g s.1 (nI i) (bI u) (nI x) (nI s.2.2) (nI (160 * i + j))) L.length (fun j s => GH (wU u) L w δ (x :: ρ) m0 s.1 s.2.1 s.2.2 ∧ GPc u L w δ V s.2.1 x s.2.2 j) (fun o => ∃ lv m', o = some (nI lv, m') ∧ lv ≤ 2000000000 ∧ Fx 101 102 [] m0 m' ∧ (lv = δ 0 ↔ ∃ b, SdR (wU u) L w δ true (x :: ρ) b) ∧ TTs (wU u) L w δ m' (x :: ρ)) ?_ ?_ N 0 (ma, (fun _ => 2000000000), 2000000000) (Nat.zero_le _) ⟨⟨ia, fun a ha => ⟨ib a ha, Or.inl rfl⟩, Or.inl rfl, Nat.le_refl _⟩, fun j q p r hj => absurd hj (Nat.not_lt_zero _)⟩ (by omega)
    · rintro g j ⟨m1, T1, l1⟩ hj ⟨i1, i2⟩
      have i1 : GH (wU u) L w δ (x :: ρ) m0 m1 T1 l1 := i1
      have i2 : GPc u L w δ V T1 x l1 j := i2
      have h1 := i1.mx hM0
      obtain ⟨q, hq⟩ : ∃ q, L[j]? = some q := ⟨_, List.getElem?_eq_getElem hj⟩
      have hqL := List.mem_of_getElem? hq
      have hqm := hok q hqL
      have f1 := hqm.2.1
      have t1 := hqm.2.2.1
      have hc1 := hqm.2.2.2.2.2
      have hsl := syW_le (way := wU u) hqm
      have e74 := h1.1.1.2.2.1
      left
      show ∃ s' : Mem × (Nat → Nat) × Nat, _ ∧ S_X8_goesHere_39 N (L_X8_goesHere_39 N g) m1 (nI i) (bI u) (nI x) (nI l1) (nI (160 * i + j)) = _
      unfold S_X8_goesHere_39
      simp (disch := omega) only [zi_t, zi_f, bnd_t, zg_in, zx, nI_ltI, nI_leI, nI_eq, nI_add, pk_mul, pk_sub, mup_s, mup_c, mup_j, mrw_c, if_pos, if_neg, zm_1, zm_2, zm_3, zm_4, zm_5, zm_6, zm_7, zm_8, zm_9, zf_0, zf_1, zf_2, zf_3, zf_4, zf_5, zf_6, zf_7, zf_8, zf_9, zf_10, zf_14, zf_15, zf_16, zf_18, zf_19, zf_20, zf_24, zf_30, zf_31, zf_32, zf_33, zf_99, zf_100, zf_160, zf_200, zf_287, zf_288, zf_300, zf_1000, zf_1023, zf_1024, zf_1600, zf_3840, zf_25600, zf_36000, zf_1000000, zf_1000000000, zf_2000000000, zf_11560, za_1, za_2, za_4, za_5, za_6, za_7, za_8, za_9, za_10, za_11, za_12, za_14, za_15, za_22, za_23, za_25, za_26, za_27, za_28, za_29, za_30, za_31, za_32, za_33, za_34, za_35, za_41, za_42, za_43, za_44, za_45, za_46, za_47, za_48, za_49, za_61, za_62, za_63, za_64, za_65, za_71, za_72, za_73, za_74, za_75, za_76, za_77, za_78, za_79, za_80, za_81, za_82, za_83, za_84, za_85, za_86, za_87, za_88, za_89, za_90, za_91, za_92, za_93, za_94, za_95, za_96, za_97, za_98, za_99, za_100, za_101, za_102, za_103, za_104, za_105, za_106, za_107, za_108, e74]
      refine loopF (σ := Mem × (Nat → Nat) × Nat) (fun k s p => L_X8_goesHere_59 N (L_X8_goesHere_39 N g) k s.1 (nI i) (bI u) (nI x) (nI s.2.2) (nI (160 * i + j)) (nI p)) (w.length + 1) (fun p s => GH (wU u) L w δ (x :: ρ) m0 s.1 s.2.1 s.2.2 ∧ GPc u L w δ V s.2.1 x s.2.2 j ∧ ∀ p' r, p' < p → bhd u w q p' = some r → V (32 * p' + fr q.1) < 2000000000 → δ (32 * r + too q.1) < 1000000000 → s.2.1 (32 * r + too q.1) ≤ V (32 * p' + fr q.1) + q.2 ∧ s.2.2 ≤ V (32 * p' + fr q.1) + q.2 + δ (32 * r + too q.1)) (fun o => ∃ s' : Mem × (Nat → Nat) × Nat, (GH (wU u) L w δ (x :: ρ) m0 s'.1 s'.2.1 s'.2.2 ∧ GPc u L w δ V s'.2.1 x s'.2.2 (j + 1)) ∧ o = L_X8_goesHere_39 N g s'.1 (nI i) (bI u) (nI x) (nI s'.2.2) (nI (160 * i + (j + 1)))) ?_ ?_ N 0 (m1, T1, l1) (Nat.zero_le _) ⟨i1, i2, fun p' r hp' => absurd hp' (Nat.not_lt_zero _)⟩ (by omega)
      · rintro k p ⟨m2, T2, l2⟩ hp ⟨j1, j2, j3⟩
        have j1 : GH (wU u) L w δ (x :: ρ) m0 m2 T2 l2 := j1
        have j2 : GPc u L w δ V T2 x l2 j := j2
        have j3 : ∀ p' r, p' < p → bhd u w q p' = some r → V (32 * p' + fr q.1) < 2000000000 → δ (32 * r + too q.1) < 1000000000 → T2 (32 * r + too q.1) ≤ V (32 * p' + fr q.1) + q.2 ∧ l2 ≤ V (32 * p' + fr q.1) + q.2 + δ (32 * r + too q.1) := j3
        have h2 := j1.mx hM0
        have hp' : p ≤ w.length := by omega
        have e702 := h2.1.2.1
        have hout := mo_outOf (N := N) (u := u) h2.1.1 hi hq (by omega) hok
        have hbh := mo_behind (N := N) (u := u) h2.1 hi hq (by omega) hok hwl hwx hp'
        obtain ⟨e75, e76, e77, e78, e79⟩ := h2.1.1.2.2.2 j q hq
        have j14 := j1.2.2.2
        by_cases c8 : syW (wU u) q = x
        · rw [c8] at hout
          left
          show ∃ s' : Mem × (Nat → Nat) × Nat, _ ∧ S_X8_goesHere_59 N (L_X8_goesHere_39 N g) (L_X8_goesHere_59 N (L_X8_goesHere_39 N g) k) m2 (nI i) (bI u) (nI x) (nI l2) (nI (160 * i + j)) (nI p) = L_X8_goesHere_59 N (L_X8_goesHere_39 N g) k s'.1 (nI i) (bI u) (nI x) (nI s'.2.2) (nI (160 * i + j)) (nI (p + 1))
          have hno : (∀ r, bhd u w q p = some r → V (32 * p + fr q.1) < 2000000000 → δ (32 * r + too q.1) < 1000000000 → False) → GH (wU u) L w δ (x :: ρ) m0 m2 T2 l2 ∧ GPc u L w δ V T2 x l2 j ∧ ∀ p' r, p' < p + 1 → bhd u w q p' = some r → V (32 * p' + fr q.1) < 2000000000 → δ (32 * r + too q.1) < 1000000000 → T2 (32 * r + too q.1) ≤ V (32 * p' + fr q.1) + q.2 ∧ l2 ≤ V (32 * p' + fr q.1) + q.2 + δ (32 * r + too q.1) := by
            intro hh
            refine ⟨j1, j2, fun p' r hp' hr hlt hd => ?_⟩
            by_cases e : p' = p
            · rw [e] at hr hlt
              exact absurd (hh r hr hlt hd) id
            · exact j3 p' r (by omega) hr hlt hd
          unfold S_X8_goesHere_59 B_X8_goesHere_250 B_X8_goesHere_217 B_X8_goesHere_248 B_X8_goesHere_250
          have ev : m2 100 (32 * p + fr q.1) = nI (V (32 * p + fr q.1)) := by rw [j1.1.1 100 (by omega) (by omega)]; exact (hV _ (by omega)).1
          have lv := hV.top (a := 32 * p + fr q.1) (by omega)
          cases hb : bhd u w q p with
          | none =>
            rw [hb] at hbh
            have hbh : F_X8_behind N m2 (nI (160 * i + j)) (nI p) (bI u) = some (nM, m2) := hbh
            refine ⟨(m2, T2, l2), hno (fun r hr => by rw [hb] at hr; exact absurd hr (by simp)), ?_⟩
            simp (disch := omega) only [zi_t, zi_f, bnd_t, zg_in, zx, nI_ltI, nI_leI, nI_eq, nI_add, pk_mul, pk_sub, mup_s, mup_c, mup_j, mrw_c, if_pos, if_neg, zm_1, zm_2, zm_3, zm_4, zm_5, zm_6, zm_7, zm_8, zm_9, zf_0, zf_1, zf_2, zf_3, zf_4, zf_5, zf_6, zf_7, zf_8, zf_9, zf_10, zf_14, zf_15, zf_16, zf_18, zf_19, zf_20, zf_24, zf_30, zf_31, zf_32, zf_33, zf_99, zf_100, zf_160, zf_200, zf_287, zf_288, zf_300, zf_1000, zf_1023, zf_1024, zf_1600, zf_3840, zf_25600, zf_36000, zf_1000000, zf_1000000000, zf_2000000000, zf_11560, za_1, za_2, za_4, za_5, za_6, za_7, za_8, za_9, za_10, za_11, za_12, za_14, za_15, za_22, za_23, za_25, za_26, za_27, za_28, za_29, za_30, za_31, za_32, za_33, za_34, za_35, za_41, za_42, za_43, za_44, za_45, za_46, za_47, za_48, za_49, za_61, za_62, za_63, za_64, za_65, za_71, za_72, za_73, za_74, za_75, za_76, za_77, za_78, za_79, za_80, za_81, za_82, za_83, za_84, za_85, za_86, za_87, za_88, za_89, za_90, za_91, za_92, za_93, za_94, za_95, za_96, za_97, za_98, za_99, za_100, za_101, za_102, za_103, za_104, za_105, za_106, za_107, za_108, e702]
            rw [cal_t hout]
            simp (disch := omega) only [zi_t, zi_f, bnd_t, zg_in, zx, nI_ltI, nI_leI, nI_eq, nI_add, pk_mul, pk_sub, mup_s, mup_c, mup_j, mrw_c, if_pos, if_neg, zm_1, zm_2, zm_3, zm_4, zm_5, zm_6, zm_7, zm_8, zm_9, zf_0, zf_1, zf_2, zf_3, zf_4, zf_5, zf_6, zf_7, zf_8, zf_9, zf_10, zf_14, zf_15, zf_16, zf_18, zf_19, zf_20, zf_24, zf_30, zf_31, zf_32, zf_33, zf_99, zf_100, zf_160, zf_200, zf_287, zf_288, zf_300, zf_1000, zf_1023, zf_1024, zf_1600, zf_3840, zf_25600, zf_36000, zf_1000000, zf_1000000000, zf_2000000000, zf_11560, za_1, za_2, za_4, za_5, za_6, za_7, za_8, za_9, za_10, za_11, za_12, za_14, za_15, za_22, za_23, za_25, za_26, za_27, za_28, za_29, za_30, za_31, za_32, za_33, za_34, za_35, za_41, za_42, za_43, za_44, za_45, za_46, za_47, za_48, za_49, za_61, za_62, za_63, za_64, za_65, za_71, za_72, za_73, za_74, za_75, za_76, za_77, za_78, za_79, za_80, za_81, za_82, za_83, za_84, za_85, za_86, za_87, za_88, za_89, za_90, za_91, za_92, za_93, za_94, za_95, za_96, za_97, za_98, za_99, za_100, za_101, za_102, za_103, za_104, za_105, za_106, za_107, za_108]
            rw [cal_t hbh]
            simp (disch := omega) only [zi_t, zi_f, bnd_t, zg_in, zx, nI_ltI, nI_leI, nI_eq, nI_add, pk_mul, pk_sub, mup_s, mup_c, mup_j, mrw_c, if_pos, if_neg, zm_1, zm_2, zm_3, zm_4, zm_5, zm_6, zm_7, zm_8, zm_9, zf_0, zf_1, zf_2, zf_3, zf_4, zf_5, zf_6, zf_7, zf_8, zf_9, zf_10, zf_14, zf_15, zf_16, zf_18, zf_19, zf_20, zf_24, zf_30, zf_31, zf_32, zf_33, zf_99, zf_100, zf_160, zf_200, zf_287, zf_288, zf_300, zf_1000, zf_1023, zf_1024, zf_1600, zf_3840, zf_25600, zf_36000, zf_1000000, zf_1000000000, zf_2000000000, zf_11560, za_1, za_2, za_4, za_5, za_6, za_7, za_8, za_9, za_10, za_11, za_12, za_14, za_15, za_22, za_23, za_25, za_26, za_27, za_28, za_29, za_30, za_31, za_32, za_33, za_34, za_35, za_41, za_42, za_43, za_44, za_45, za_46, za_47, za_48, za_49, za_61, za_62, za_63, za_64, za_65, za_71, za_72, za_73, za_74, za_75, za_76, za_77, za_78, za_79, za_80, za_81, za_82, za_83, za_84, za_85, za_86, za_87, za_88, za_89, za_90, za_91, za_92, za_93, za_94, za_95, za_96, za_97, za_98, za_99, za_100, za_101, za_102, za_103, za_104, za_105, za_106, za_107, za_108]
          | some r =>
            rw [hb] at hbh
            have hbh : F_X8_behind N m2 (nI (160 * i + j)) (nI p) (bI u) = some (nI r, m2) := hbh
            obtain ⟨hr, hEg, _⟩ := bhd_eg hqL hp' hb
            rw [c8] at hEg
            have e99 := h2.2 (32 * r + too q.1) (by omega)
            have eb := (j1.2.1 (32 * r + too q.1) (by omega)).1
            have lb := j1.2.1.top (a := 32 * r + too q.1) (by omega)
            by_cases cF : V (32 * p + fr q.1) = 2000000000
            · refine ⟨(m2, T2, l2), hno (fun r hr hlt => by omega), ?_⟩
              rw [cF] at ev
              simp (disch := omega) only [zi_t, zi_f, bnd_t, zg_in, zx, nI_ltI, nI_leI, nI_eq, nI_add, pk_mul, pk_sub, mup_s, mup_c, mup_j, mrw_c, if_pos, if_neg, zm_1, zm_2, zm_3, zm_4, zm_5, zm_6, zm_7, zm_8, zm_9, zf_0, zf_1, zf_2, zf_3, zf_4, zf_5, zf_6, zf_7, zf_8, zf_9, zf_10, zf_14, zf_15, zf_16, zf_18, zf_19, zf_20, zf_24, zf_30, zf_31, zf_32, zf_33, zf_99, zf_100, zf_160, zf_200, zf_287, zf_288, zf_300, zf_1000, zf_1023, zf_1024, zf_1600, zf_3840, zf_25600, zf_36000, zf_1000000, zf_1000000000, zf_2000000000, zf_11560, za_1, za_2, za_4, za_5, za_6, za_7, za_8, za_9, za_10, za_11, za_12, za_14, za_15, za_22, za_23, za_25, za_26, za_27, za_28, za_29, za_30, za_31, za_32, za_33, za_34, za_35, za_41, za_42, za_43, za_44, za_45, za_46, za_47, za_48, za_49, za_61, za_62, za_63, za_64, za_65, za_71, za_72, za_73, za_74, za_75, za_76, za_77, za_78, za_79, za_80, za_81, za_82, za_83, za_84, za_85, za_86, za_87, za_88, za_89, za_90, za_91, za_92, za_93, za_94, za_95, za_96, za_97, za_98, za_99, za_100, za_101, za_102, za_103, za_104, za_105, za_106, za_107, za_108, e702]
              rw [cal_t hout]
              simp (disch := omega) only [zi_t, zi_f, bnd_t, zg_in, zx, nI_ltI, nI_leI, nI_eq, nI_add, pk_mul, pk_sub, mup_s, mup_c, mup_j, mrw_c, if_pos, if_neg, zm_1, zm_2, zm_3, zm_4, zm_5, zm_6, zm_7, zm_8, zm_9, zf_0, zf_1, zf_2, zf_3, zf_4, zf_5, zf_6, zf_7, zf_8, zf_9, zf_10, zf_14, zf_15, zf_16, zf_18, zf_19, zf_20, zf_24, zf_30, zf_31, zf_32, zf_33, zf_99, zf_100, zf_160, zf_200, zf_287, zf_288, zf_300, zf_1000, zf_1023, zf_1024, zf_1600, zf_3840, zf_25600, zf_36000, zf_1000000, zf_1000000000, zf_2000000000, zf_11560, za_1, za_2, za_4, za_5, za_6, za_7, za_8, za_9, za_10, za_11, za_12, za_14, za_15, za_22, za_23, za_25, za_26, za_27, za_28, za_29, za_30, za_31, za_32, za_33, za_34, za_35, za_41, za_42, za_43, za_44, za_45, za_46, za_47, za_48, za_49, za_61, za_62, za_63, za_64, za_65, za_71, za_72, za_73, za_74, za_75, za_76, za_77, za_78, za_79, za_80, za_81, za_82, za_83, za_84, za_85, za_86, za_87, za_88, za_89, za_90, za_91, za_92, za_93, za_94, za_95, za_96, za_97, za_98, za_99, za_100, za_101, za_102, za_103, za_104, za_105, za_106, za_107, za_108]
              rw [cal_t hbh]
              simp (disch := omega) only [zi_t, zi_f, bnd_t, zg_in, zx, nI_ltI, nI_leI, nI_eq, nI_add, pk_mul, pk_sub, mup_s, mup_c, mup_j, mrw_c, if_pos, if_neg, zm_1, zm_2, zm_3, zm_4, zm_5, zm_6, zm_7, zm_8, zm_9, zf_0, zf_1, zf_2, zf_3, zf_4, zf_5, zf_6, zf_7, zf_8, zf_9, zf_10, zf_14, zf_15, zf_16, zf_18, zf_19, zf_20, zf_24, zf_30, zf_31, zf_32, zf_33, zf_99, zf_100, zf_160, zf_200, zf_287, zf_288, zf_300, zf_1000, zf_1023, zf_1024, zf_1600, zf_3840, zf_25600, zf_36000, zf_1000000, zf_1000000000, zf_2000000000, zf_11560, za_1, za_2, za_4, za_5, za_6, za_7, za_8, za_9, za_10, za_11, za_12, za_14, za_15, za_22, za_23, za_25, za_26, za_27, za_28, za_29, za_30, za_31, za_32, za_33, za_34, za_35, za_41, za_42, za_43, za_44, za_45, za_46, za_47, za_48, za_49, za_61, za_62, za_63, za_64, za_65, za_71, za_72, za_73, za_74, za_75, za_76, za_77, za_78, za_79, za_80, za_81, za_82, za_83, za_84, za_85, za_86, za_87, za_88, za_89, za_90, za_91, za_92, za_93, za_94, za_95, za_96, za_97, za_98, za_99, za_100, za_101, za_102, za_103, za_104, za_105, za_106, za_107, za_108, e75, ev]
            · rcases mF_0 (δ := δ) (a := 32 * r + too q.1) with ⟨y1, y2⟩ | ⟨y1, y2⟩
              · rw [y1] at e99
                refine ⟨(m2, T2, l2), hno (fun r' hr' hlt hd => by
                  rw [hb] at hr'
                  have e := Option.some.inj hr'
                  subst e
                  exact y2 hd), ?_⟩
                simp (disch := omega) only [zi_t, zi_f, bnd_t, zg_in, zx, nI_ltI, nI_leI, nI_eq, nI_add, pk_mul, pk_sub, mup_s, mup_c, mup_j, mrw_c, if_pos, if_neg, zm_1, zm_2, zm_3, zm_4, zm_5, zm_6, zm_7, zm_8, zm_9, zf_0, zf_1, zf_2, zf_3, zf_4, zf_5, zf_6, zf_7, zf_8, zf_9, zf_10, zf_14, zf_15, zf_16, zf_18, zf_19, zf_20, zf_24, zf_30, zf_31, zf_32, zf_33, zf_99, zf_100, zf_160, zf_200, zf_287, zf_288, zf_300, zf_1000, zf_1023, zf_1024, zf_1600, zf_3840, zf_25600, zf_36000, zf_1000000, zf_1000000000, zf_2000000000, zf_11560, za_1, za_2, za_4, za_5, za_6, za_7, za_8, za_9, za_10, za_11, za_12, za_14, za_15, za_22, za_23, za_25, za_26, za_27, za_28, za_29, za_30, za_31, za_32, za_33, za_34, za_35, za_41, za_42, za_43, za_44, za_45, za_46, za_47, za_48, za_49, za_61, za_62, za_63, za_64, za_65, za_71, za_72, za_73, za_74, za_75, za_76, za_77, za_78, za_79, za_80, za_81, za_82, za_83, za_84, za_85, za_86, za_87, za_88, za_89, za_90, za_91, za_92, za_93, za_94, za_95, za_96, za_97, za_98, za_99, za_100, za_101, za_102, za_103, za_104, za_105, za_106, za_107, za_108, e702]
                rw [cal_t hout]
                simp (disch := omega) only [zi_t, zi_f, bnd_t, zg_in, zx, nI_ltI, nI_leI, nI_eq, nI_add, pk_mul, pk_sub, mup_s, mup_c, mup_j, mrw_c, if_pos, if_neg, zm_1, zm_2, zm_3, zm_4, zm_5, zm_6, zm_7, zm_8, zm_9, zf_0, zf_1, zf_2, zf_3, zf_4, zf_5, zf_6, zf_7, zf_8, zf_9, zf_10, zf_14, zf_15, zf_16, zf_18, zf_19, zf_20, zf_24, zf_30, zf_31, zf_32, zf_33, zf_99, zf_100, zf_160, zf_200, zf_287, zf_288, zf_300, zf_1000, zf_1023, zf_1024, zf_1600, zf_3840, zf_25600, zf_36000, zf_1000000, zf_1000000000, zf_2000000000, zf_11560, za_1, za_2, za_4, za_5, za_6, za_7, za_8, za_9, za_10, za_11, za_12, za_14, za_15, za_22, za_23, za_25, za_26, za_27, za_28, za_29, za_30, za_31, za_32, za_33, za_34, za_35, za_41, za_42, za_43, za_44, za_45, za_46, za_47, za_48, za_49, za_61, za_62, za_63, za_64, za_65, za_71, za_72, za_73, za_74, za_75, za_76, za_77, za_78, za_79, za_80, za_81, za_82, za_83, za_84, za_85, za_86, za_87, za_88, za_89, za_90, za_91, za_92, za_93, za_94, za_95, za_96, za_97, za_98, za_99, za_100, za_101, za_102, za_103, za_104, za_105, za_106, za_107, za_108]
                rw [cal_t hbh]
                simp (disch := omega) only [zi_t, zi_f, bnd_t, zg_in, zx, nI_ltI, nI_leI, nI_eq, nI_add, pk_mul, pk_sub, mup_s, mup_c, mup_j, mrw_c, if_pos, if_neg, zm_1, zm_2, zm_3, zm_4, zm_5, zm_6, zm_7, zm_8, zm_9, zf_0, zf_1, zf_2, zf_3, zf_4, zf_5, zf_6, zf_7, zf_8, zf_9, zf_10, zf_14, zf_15, zf_16, zf_18, zf_19, zf_20, zf_24, zf_30, zf_31, zf_32, zf_33, zf_99, zf_100, zf_160, zf_200, zf_287, zf_288, zf_300, zf_1000, zf_1023, zf_1024, zf_1600, zf_3840, zf_25600, zf_36000, zf_1000000, zf_1000000000, zf_2000000000, zf_11560, za_1, za_2, za_4, za_5, za_6, za_7, za_8, za_9, za_10, za_11, za_12, za_14, za_15, za_22, za_23, za_25, za_26, za_27, za_28, za_29, za_30, za_31, za_32, za_33, za_34, za_35, za_41, za_42, za_43, za_44, za_45, za_46, za_47, za_48, za_49, za_61, za_62, za_63, za_64, za_65, za_71, za_72, za_73, za_74, za_75, za_76, za_77, za_78, za_79, za_80, za_81, za_82, za_83, za_84, za_85, za_86, za_87, za_88, za_89, za_90, za_91, za_92, za_93, za_94, za_95, za_96, za_97, za_98, za_99, za_100, za_101, za_102, za_103, za_104, za_105, za_106, za_107, za_108, e75, e79, ev, e99]
              · rw [y1] at e99
                have hVr := hV.r (a := 32 * p + fr q.1) (by omega) (by omega)
                have hVb := hB ρ _ _ hρ hVr
                have hz : SdZ (wU u) L w (x :: ρ) (32 * r + too q.1) (V (32 * p + fr q.1) + q.2) := ⟨_, _, _, hVr, hEg, rfl⟩
                obtain ⟨v, hv⟩ : ∃ v, v = V (32 * p + fr q.1) + q.2 := ⟨_, rfl⟩
                rw [← hv] at hz
                have hup := j1.2.1.up (b := 32 * r + too q.1) (v := v) (by omega) (fun _ => hz)
                obtain ⟨l3, hl3⟩ : ∃ l3, l3 = if l2 ≤ v + δ (32 * r + too q.1) then l2 else v + δ (32 * r + too q.1) := ⟨_, rfl⟩
                have hl3a : l3 ≤ l2 := by rw [hl3]; split <;> omega
                have hl3b : l3 ≤ v + δ (32 * r + too q.1) := by rw [hl3]; split <;> omega
                have hGH : GH (wU u) L w δ (x :: ρ) m0 (mup m2 101 (32 * r + too q.1) (nI (if v < T2 (32 * r + too q.1) then v else T2 (32 * r + too q.1)))) (lwV T2 (32 * r + too q.1) v) l3 := by
                  refine ⟨j1.1.up (by omega) (by omega) (by omega), hup, ?_, by omega⟩
                  by_cases c : l2 ≤ v + δ (32 * r + too q.1)
                  · rw [if_pos c] at hl3
                    rw [hl3]
                    exact j1.2.2.1
                  · rw [if_neg c] at hl3
                    exact Or.inr ⟨_, _, hz, y2, hl3⟩
                refine ⟨(mup m2 101 (32 * r + too q.1) (nI (if v < T2 (32 * r + too q.1) then v else T2 (32 * r + too q.1))), lwV T2 (32 * r + too q.1) v, l3), ⟨hGH, fun j' q' p' r' hj' hq' hs' hp'' hr' hlt hd => ?_, fun p' r' hp'' hr' hlt hd => ?_⟩, ?_⟩
                · obtain ⟨z1, z2⟩ := j2 j' q' p' r' hj' hq' hs' hp'' hr' hlt hd
                  exact ⟨Nat.le_trans (lwV_le _) z1, Nat.le_trans hl3a z2⟩
                · by_cases e : p' = p
                  · rw [e, hb] at hr'
                    have e2 := Option.some.inj hr'
                    subst e2
                    rw [e]
                    exact ⟨by rw [← hv]; exact lwV_at, by rw [← hv]; exact hl3b⟩
                  · obtain ⟨z1, z2⟩ := j3 p' r' (by omega) hr' hlt hd
                    exact ⟨Nat.le_trans (lwV_le _) z1, Nat.le_trans hl3a z2⟩
                · simp (disch := omega) only [zi_t, zi_f, bnd_t, zg_in, zx, nI_ltI, nI_leI, nI_eq, nI_add, pk_mul, pk_sub, mup_s, mup_c, mup_j, mrw_c, if_pos, if_neg, zm_1, zm_2, zm_3, zm_4, zm_5, zm_6, zm_7, zm_8, zm_9, zf_0, zf_1, zf_2, zf_3, zf_4, zf_5, zf_6, zf_7, zf_8, zf_9, zf_10, zf_14, zf_15, zf_16, zf_18, zf_19, zf_20, zf_24, zf_30, zf_31, zf_32, zf_33, zf_99, zf_100, zf_160, zf_200, zf_287, zf_288, zf_300, zf_1000, zf_1023, zf_1024, zf_1600, zf_3840, zf_25600, zf_36000, zf_1000000, zf_1000000000, zf_2000000000, zf_11560, za_1, za_2, za_4, za_5, za_6, za_7, za_8, za_9, za_10, za_11, za_12, za_14, za_15, za_22, za_23, za_25, za_26, za_27, za_28, za_29, za_30, za_31, za_32, za_33, za_34, za_35, za_41, za_42, za_43, za_44, za_45, za_46, za_47, za_48, za_49, za_61, za_62, za_63, za_64, za_65, za_71, za_72, za_73, za_74, za_75, za_76, za_77, za_78, za_79, za_80, za_81, za_82, za_83, za_84, za_85, za_86, za_87, za_88, za_89, za_90, za_91, za_92, za_93, za_94, za_95, za_96, za_97, za_98, za_99, za_100, za_101, za_102, za_103, za_104, za_105, za_106, za_107, za_108, e702]
                  rw [cal_t hout]
                  simp (disch := omega) only [zi_t, zi_f, bnd_t, zg_in, zx, nI_ltI, nI_leI, nI_eq, nI_add, pk_mul, pk_sub, mup_s, mup_c, mup_j, mrw_c, if_pos, if_neg, zm_1, zm_2, zm_3, zm_4, zm_5, zm_6, zm_7, zm_8, zm_9, zf_0, zf_1, zf_2, zf_3, zf_4, zf_5, zf_6, zf_7, zf_8, zf_9, zf_10, zf_14, zf_15, zf_16, zf_18, zf_19, zf_20, zf_24, zf_30, zf_31, zf_32, zf_33, zf_99, zf_100, zf_160, zf_200, zf_287, zf_288, zf_300, zf_1000, zf_1023, zf_1024, zf_1600, zf_3840, zf_25600, zf_36000, zf_1000000, zf_1000000000, zf_2000000000, zf_11560, za_1, za_2, za_4, za_5, za_6, za_7, za_8, za_9, za_10, za_11, za_12, za_14, za_15, za_22, za_23, za_25, za_26, za_27, za_28, za_29, za_30, za_31, za_32, za_33, za_34, za_35, za_41, za_42, za_43, za_44, za_45, za_46, za_47, za_48, za_49, za_61, za_62, za_63, za_64, za_65, za_71, za_72, za_73, za_74, za_75, za_76, za_77, za_78, za_79, za_80, za_81, za_82, za_83, za_84, za_85, za_86, za_87, za_88, za_89, za_90, za_91, za_92, za_93, za_94, za_95, za_96, za_97, za_98, za_99, za_100, za_101, za_102, za_103, za_104, za_105, za_106, za_107, za_108]
                  rw [cal_t hbh]
                  simp (disch := omega) only [zi_t, zi_f, bnd_t, zg_in, zx, nI_ltI, nI_leI, nI_eq, nI_add, pk_mul, pk_sub, mup_s, mup_c, mup_j, mrw_c, if_pos, if_neg, zm_1, zm_2, zm_3, zm_4, zm_5, zm_6, zm_7, zm_8, zm_9, zf_0, zf_1, zf_2, zf_3, zf_4, zf_5, zf_6, zf_7, zf_8, zf_9, zf_10, zf_14, zf_15, zf_16, zf_18, zf_19, zf_20, zf_24, zf_30, zf_31, zf_32, zf_33, zf_99, zf_100, zf_160, zf_200, zf_287, zf_288, zf_300, zf_1000, zf_1023, zf_1024, zf_1600, zf_3840, zf_25600, zf_36000, zf_1000000, zf_1000000000, zf_2000000000, zf_11560, za_1, za_2, za_4, za_5, za_6, za_7, za_8, za_9, za_10, za_11, za_12, za_14, za_15, za_22, za_23, za_25, za_26, za_27, za_28, za_29, za_30, za_31, za_32, za_33, za_34, za_35, za_41, za_42, za_43, za_44, za_45, za_46, za_47, za_48, za_49, za_61, za_62, za_63, za_64, za_65, za_71, za_72, za_73, za_74, za_75, za_76, za_77, za_78, za_79, za_80, za_81, za_82, za_83, za_84, za_85, za_86, za_87, za_88, za_89, za_90, za_91, za_92, za_93, za_94, za_95, za_96, za_97, za_98, za_99, za_100, za_101, za_102, za_103, za_104, za_105, za_106, za_107, za_108, e75, e78, e79, ev, e99, eb]
                  rw [← hv]
                  by_cases ca : v < T2 (32 * r + too q.1)
                  · by_cases cb : l2 ≤ v + δ (32 * r + too q.1)
                    · rw [if_pos cb] at hl3
                      rw [hl3]
                      simp (disch := omega) only [zi_t, zi_f, bnd_t, zg_in, zx, nI_ltI, nI_leI, nI_eq, nI_add, pk_mul, pk_sub, mup_s, mup_c, mup_j, mrw_c, if_pos, if_neg, zm_1, zm_2, zm_3, zm_4, zm_5, zm_6, zm_7, zm_8, zm_9, zf_0, zf_1, zf_2, zf_3, zf_4, zf_5, zf_6, zf_7, zf_8, zf_9, zf_10, zf_14, zf_15, zf_16, zf_18, zf_19, zf_20, zf_24, zf_30, zf_31, zf_32, zf_33, zf_99, zf_100, zf_160, zf_200, zf_287, zf_288, zf_300, zf_1000, zf_1023, zf_1024, zf_1600, zf_3840, zf_25600, zf_36000, zf_1000000, zf_1000000000, zf_2000000000, zf_11560, za_1, za_2, za_4, za_5, za_6, za_7, za_8, za_9, za_10, za_11, za_12, za_14, za_15, za_22, za_23, za_25, za_26, za_27, za_28, za_29, za_30, za_31, za_32, za_33, za_34, za_35, za_41, za_42, za_43, za_44, za_45, za_46, za_47, za_48, za_49, za_61, za_62, za_63, za_64, za_65, za_71, za_72, za_73, za_74, za_75, za_76, za_77, za_78, za_79, za_80, za_81, za_82, za_83, za_84, za_85, za_86, za_87, za_88, za_89, za_90, za_91, za_92, za_93, za_94, za_95, za_96, za_97, za_98, za_99, za_100, za_101, za_102, za_103, za_104, za_105, za_106, za_107, za_108, e99]
                    · rw [if_neg cb] at hl3
                      rw [hl3]
                      simp (disch := omega) only [zi_t, zi_f, bnd_t, zg_in, zx, nI_ltI, nI_leI, nI_eq, nI_add, pk_mul, pk_sub, mup_s, mup_c, mup_j, mrw_c, if_pos, if_neg, zm_1, zm_2, zm_3, zm_4, zm_5, zm_6, zm_7, zm_8, zm_9, zf_0, zf_1, zf_2, zf_3, zf_4, zf_5, zf_6, zf_7, zf_8, zf_9, zf_10, zf_14, zf_15, zf_16, zf_18, zf_19, zf_20, zf_24, zf_30, zf_31, zf_32, zf_33, zf_99, zf_100, zf_160, zf_200, zf_287, zf_288, zf_300, zf_1000, zf_1023, zf_1024, zf_1600, zf_3840, zf_25600, zf_36000, zf_1000000, zf_1000000000, zf_2000000000, zf_11560, za_1, za_2, za_4, za_5, za_6, za_7, za_8, za_9, za_10, za_11, za_12, za_14, za_15, za_22, za_23, za_25, za_26, za_27, za_28, za_29, za_30, za_31, za_32, za_33, za_34, za_35, za_41, za_42, za_43, za_44, za_45, za_46, za_47, za_48, za_49, za_61, za_62, za_63, za_64, za_65, za_71, za_72, za_73, za_74, za_75, za_76, za_77, za_78, za_79, za_80, za_81, za_82, za_83, za_84, za_85, za_86, za_87, za_88, za_89, za_90, za_91, za_92, za_93, za_94, za_95, za_96, za_97, za_98, za_99, za_100, za_101, za_102, za_103, za_104, za_105, za_106, za_107, za_108, e99]
                  · by_cases cb : l2 ≤ v + δ (32 * r + too q.1)
                    · rw [if_pos cb] at hl3
                      rw [hl3]
                      simp (disch := omega) only [zi_t, zi_f, bnd_t, zg_in, zx, nI_ltI, nI_leI, nI_eq, nI_add, pk_mul, pk_sub, mup_s, mup_c, mup_j, mrw_c, if_pos, if_neg, zm_1, zm_2, zm_3, zm_4, zm_5, zm_6, zm_7, zm_8, zm_9, zf_0, zf_1, zf_2, zf_3, zf_4, zf_5, zf_6, zf_7, zf_8, zf_9, zf_10, zf_14, zf_15, zf_16, zf_18, zf_19, zf_20, zf_24, zf_30, zf_31, zf_32, zf_33, zf_99, zf_100, zf_160, zf_200, zf_287, zf_288, zf_300, zf_1000, zf_1023, zf_1024, zf_1600, zf_3840, zf_25600, zf_36000, zf_1000000, zf_1000000000, zf_2000000000, zf_11560, za_1, za_2, za_4, za_5, za_6, za_7, za_8, za_9, za_10, za_11, za_12, za_14, za_15, za_22, za_23, za_25, za_26, za_27, za_28, za_29, za_30, za_31, za_32, za_33, za_34, za_35, za_41, za_42, za_43, za_44, za_45, za_46, za_47, za_48, za_49, za_61, za_62, za_63, za_64, za_65, za_71, za_72, za_73, za_74, za_75, za_76, za_77, za_78, za_79, za_80, za_81, za_82, za_83, za_84, za_85, za_86, za_87, za_88, za_89, za_90, za_91, za_92, za_93, za_94, za_95, za_96, za_97, za_98, za_99, za_100, za_101, za_102, za_103, za_104, za_105, za_106, za_107, za_108, e99]
                    · rw [if_neg cb] at hl3
                      rw [hl3]
                      simp (disch := omega) only [zi_t, zi_f, bnd_t, zg_in, zx, nI_ltI, nI_leI, nI_eq, nI_add, pk_mul, pk_sub, mup_s, mup_c, mup_j, mrw_c, if_pos, if_neg, zm_1, zm_2, zm_3, zm_4, zm_5, zm_6, zm_7, zm_8, zm_9, zf_0, zf_1, zf_2, zf_3, zf_4, zf_5, zf_6, zf_7, zf_8, zf_9, zf_10, zf_14, zf_15, zf_16, zf_18, zf_19, zf_20, zf_24, zf_30, zf_31, zf_32, zf_33, zf_99, zf_100, zf_160, zf_200, zf_287, zf_288, zf_300, zf_1000, zf_1023, zf_1024, zf_1600, zf_3840, zf_25600, zf_36000, zf_1000000, zf_1000000000, zf_2000000000, zf_11560, za_1, za_2, za_4, za_5, za_6, za_7, za_8, za_9, za_10, za_11, za_12, za_14, za_15, za_22, za_23, za_25, za_26, za_27, za_28, za_29, za_30, za_31, za_32, za_33, za_34, za_35, za_41, za_42, za_43, za_44, za_45, za_46, za_47, za_48, za_49, za_61, za_62, za_63, za_64, za_65, za_71, za_72, za_73, za_74, za_75, za_76, za_77, za_78, za_79, za_80, za_81, za_82, za_83, za_84, za_85, za_86, za_87, za_88, za_89, za_90, za_91, za_92, za_93, za_94, za_95, za_96, za_97, za_98, za_99, za_100, za_101, za_102, za_103, za_104, za_105, za_106, za_107, za_108, e99]
        · right
          show ∃ s' : Mem × (Nat → Nat) × Nat, _ ∧ S_X8_goesHere_59 N (L_X8_goesHere_39 N g) (L_X8_goesHere_59 N (L_X8_goesHere_39 N g) k) m2 (nI i) (bI u) (nI x) (nI l2) (nI (160 * i + j)) (nI p) = _
          refine ⟨(m2, T2, l2), ⟨j1, fun j' q' p' r hj' hq' hs' hp' hr hlt hd => ?_⟩, ?_⟩
          · by_cases e : j' = j
            · rw [e, hq] at hq'
              have e2 := Option.some.inj hq'
              rw [← e2] at hs'
              exact absurd hs' c8
            · exact j2 j' q' p' r (by omega) hq' hs' hp' hr hlt hd
          · unfold S_X8_goesHere_59 B_X8_goesHere_256
            simp (disch := omega) only [zi_t, zi_f, bnd_t, zg_in, zx, nI_ltI, nI_leI, nI_eq, nI_add, pk_mul, pk_sub, mup_s, mup_c, mup_j, mrw_c, if_pos, if_neg, zm_1, zm_2, zm_3, zm_4, zm_5, zm_6, zm_7, zm_8, zm_9, zf_0, zf_1, zf_2, zf_3, zf_4, zf_5, zf_6, zf_7, zf_8, zf_9, zf_10, zf_14, zf_15, zf_16, zf_18, zf_19, zf_20, zf_24, zf_30, zf_31, zf_32, zf_33, zf_99, zf_100, zf_160, zf_200, zf_287, zf_288, zf_300, zf_1000, zf_1023, zf_1024, zf_1600, zf_3840, zf_25600, zf_36000, zf_1000000, zf_1000000000, zf_2000000000, zf_11560, za_1, za_2, za_4, za_5, za_6, za_7, za_8, za_9, za_10, za_11, za_12, za_14, za_15, za_22, za_23, za_25, za_26, za_27, za_28, za_29, za_30, za_31, za_32, za_33, za_34, za_35, za_41, za_42, za_43, za_44, za_45, za_46, za_47, za_48, za_49, za_61, za_62, za_63, za_64, za_65, za_71, za_72, za_73, za_74, za_75, za_76, za_77, za_78, za_79, za_80, za_81, za_82, za_83, za_84, za_85, za_86, za_87, za_88, za_89, za_90, za_91, za_92, za_93, za_94, za_95, za_96, za_97, za_98, za_99, za_100, za_101, za_102, za_103, za_104, za_105, za_106, za_107, za_108, e702]
            rw [cal_t hout]
            simp (disch := omega) only [zi_t, zi_f, bnd_t, zg_in, zx, nI_ltI, nI_leI, nI_eq, nI_add, pk_mul, pk_sub, mup_s, mup_c, mup_j, mrw_c, if_pos, if_neg, zm_1, zm_2, zm_3, zm_4, zm_5, zm_6, zm_7, zm_8, zm_9, zf_0, zf_1, zf_2, zf_3, zf_4, zf_5, zf_6, zf_7, zf_8, zf_9, zf_10, zf_14, zf_15, zf_16, zf_18, zf_19, zf_20, zf_24, zf_30, zf_31, zf_32, zf_33, zf_99, zf_100, zf_160, zf_200, zf_287, zf_288, zf_300, zf_1000, zf_1023, zf_1024, zf_1600, zf_3840, zf_25600, zf_36000, zf_1000000, zf_1000000000, zf_2000000000, zf_11560, za_1, za_2, za_4, za_5, za_6, za_7, za_8, za_9, za_10, za_11, za_12, za_14, za_15, za_22, za_23, za_25, za_26, za_27, za_28, za_29, za_30, za_31, za_32, za_33, za_34, za_35, za_41, za_42, za_43, za_44, za_45, za_46, za_47, za_48, za_49, za_61, za_62, za_63, za_64, za_65, za_71, za_72, za_73, za_74, za_75, za_76, za_77, za_78, za_79, za_80, za_81, za_82, za_83, za_84, za_85, za_86, za_87, za_88, za_89, za_90, za_91, za_92, za_93, za_94, za_95, za_96, za_97, za_98, za_99, za_100, za_101, za_102, za_103, za_104, za_105, za_106, za_107, za_108]
            rfl
      · rintro k ⟨m2, T2, l2⟩ ⟨j1, j2, j3⟩
        have j1 : GH (wU u) L w δ (x :: ρ) m0 m2 T2 l2 := j1
        have h2 := j1.mx hM0
        have e702 := h2.1.2.1
        refine ⟨(m2, T2, l2), ⟨j1, fun j' q' p' r hj' hq' hs' hp' hr hlt hd => ?_⟩, ?_⟩
        · by_cases e : j' = j
          · rw [e, hq] at hq'
            have e2 := Option.some.inj hq'
            subst e2
            exact j3 p' r (by omega) hr hlt hd
          · exact j2 j' q' p' r (by omega) hq' hs' hp' hr hlt hd
        · show S_X8_goesHere_59 N (L_X8_goesHere_39 N g) (L_X8_goesHere_59 N (L_X8_goesHere_39 N g) k) m2 (nI i) (bI u) (nI x) (nI l2) (nI (160 * i + j)) (nI (w.length + 1)) = _
          unfold S_X8_goesHere_59 B_X8_goesHere_256
          simp (disch := omega) only [zi_t, zi_f, bnd_t, zg_in, zx, nI_ltI, nI_leI, nI_eq, nI_add, pk_mul, pk_sub, mup_s, mup_c, mup_j, mrw_c, if_pos, if_neg, zm_1, zm_2, zm_3, zm_4, zm_5, zm_6, zm_7, zm_8, zm_9, zf_0, zf_1, zf_2, zf_3, zf_4, zf_5, zf_6, zf_7, zf_8, zf_9, zf_10, zf_14, zf_15, zf_16, zf_18, zf_19, zf_20, zf_24, zf_30, zf_31, zf_32, zf_33, zf_99, zf_100, zf_160, zf_200, zf_287, zf_288, zf_300, zf_1000, zf_1023, zf_1024, zf_1600, zf_3840, zf_25600, zf_36000, zf_1000000, zf_1000000000, zf_2000000000, zf_11560, za_1, za_2, za_4, za_5, za_6, za_7, za_8, za_9, za_10, za_11, za_12, za_14, za_15, za_22, za_23, za_25, za_26, za_27, za_28, za_29, za_30, za_31, za_32, za_33, za_34, za_35, za_41, za_42, za_43, za_44, za_45, za_46, za_47, za_48, za_49, za_61, za_62, za_63, za_64, za_65, za_71, za_72, za_73, za_74, za_75, za_76, za_77, za_78, za_79, za_80, za_81, za_82, za_83, za_84, za_85, za_86, za_87, za_88, za_89, za_90, za_91, za_92, za_93, za_94, za_95, za_96, za_97, za_98, za_99, za_100, za_101, za_102, za_103, za_104, za_105, za_106, za_107, za_108, e702]
          rfl
    · rintro g ⟨m1, T1, l1⟩ ⟨i1, i2⟩
      have i1 : GH (wU u) L w δ (x :: ρ) m0 m1 T1 l1 := i1
      have i2 : GPc u L w δ V T1 x l1 L.length := i2
      have h1 := i1.mx hM0
      have e74 := h1.1.1.2.2.1
      have hall : ∀ b k, SdZ (wU u) L w (x :: ρ) b k → δ b < 1000000000 → T1 b ≤ k ∧ l1 ≤ k + δ b := by
        rintro b k ⟨a, c, j, g1, hE, e⟩ hb
        obtain ⟨s1, s2⟩ := hδ.st ⟨x, hE⟩ hb
        have z1 := hmin a j g1 s2
        have z2 := hB ρ a j hρ g1
        obtain ⟨p, q, r, hp, hq, hr, ea, eb, ex, ec⟩ := eg_bhd hE
        obtain ⟨jj, hjj⟩ := List.getElem?_of_mem hq
        rw [eb] at hb
        have z3 := i2 jj q p r (List.getElem?_eq_some_iff.mp hjj).1 hjj ex.symm hp hr (by rw [← ea]; omega) hb
        rw [← ea, ← eb, ← ec] at z3
        omega
      refine ⟨l1, m1, ?_, i1.2.2.2, i1.1, lv_iff hδ h0 i1.2.2.1 (fun b k h hb => (hall b k h hb).2), T1, i1.2.1, fun b k h hb => (hall b k h hb).1⟩
      show S_X8_goesHere_39 N (L_X8_goesHere_39 N g) m1 (nI i) (bI u) (nI x) (nI l1) (nI (160 * i + L.length)) = _
      unfold S_X8_goesHere_39
      simp (disch := omega) only [zi_t, zi_f, bnd_t, zg_in, zx, nI_ltI, nI_leI, nI_eq, nI_add, pk_mul, pk_sub, mup_s, mup_c, mup_j, mrw_c, if_pos, if_neg, zm_1, zm_2, zm_3, zm_4, zm_5, zm_6, zm_7, zm_8, zm_9, zf_0, zf_1, zf_2, zf_3, zf_4, zf_5, zf_6, zf_7, zf_8, zf_9, zf_10, zf_14, zf_15, zf_16, zf_18, zf_19, zf_20, zf_24, zf_30, zf_31, zf_32, zf_33, zf_99, zf_100, zf_160, zf_200, zf_287, zf_288, zf_300, zf_1000, zf_1023, zf_1024, zf_1600, zf_3840, zf_25600, zf_36000, zf_1000000, zf_1000000000, zf_2000000000, zf_11560, za_1, za_2, za_4, za_5, za_6, za_7, za_8, za_9, za_10, za_11, za_12, za_14, za_15, za_22, za_23, za_25, za_26, za_27, za_28, za_29, za_30, za_31, za_32, za_33, za_34, za_35, za_41, za_42, za_43, za_44, za_45, za_46, za_47, za_48, za_49, za_61, za_62, za_63, za_64, za_65, za_71, za_72, za_73, za_74, za_75, za_76, za_77, za_78, za_79, za_80, za_81, za_82, za_83, za_84, za_85, za_86, za_87, za_88, za_89, za_90, za_91, za_92, za_93, za_94, za_95, za_96, za_97, za_98, za_99, za_100, za_101, za_102, za_103, za_104, za_105, za_106, za_107, za_108, e74]
