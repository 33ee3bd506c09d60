/-! the model goes by a letter -/
theorem mo_empties {N d : Nat} {m : Mem} (hN : 40000 < N) (hd : d < 300) : ∃ m', F_X8_empties N m (nI d) = some m' ∧ ORw d m m' ∧ ∀ a, a < 288 → m' 102 (288 * d + a) = nI 0 := by
  unfold F_X8_empties
  refine loopF (fun g (m : Mem) c => L_X8_empties_2 N g m (nI d) (nI c)) 288 (fun c m' => ORw d m m' ∧ ∀ a, a < c → m' 102 (288 * d + a) = nI 0) (fun o => ∃ m', o = some m' ∧ ORw d m m' ∧ ∀ a, a < 288 → m' 102 (288 * d + a) = nI 0) ?_ ?_ N 0 m (by omega) ⟨ORw.rf, fun a ha => absurd ha (Nat.not_lt_zero _)⟩ (by omega)
  · rintro g c m1 hc ⟨i1, i2⟩
    left
    refine ⟨mup m1 102 (288 * d + c) (nI 0), ⟨i1.up hc, fun a ha => ?_⟩, ?_⟩
    · rw [mup_if]
      split
      · rfl
      · exact i2 a (by omega)
    · show S_X8_empties_2 N (L_X8_empties_2 N g) m1 (nI d) (nI c) = _
      unfold S_X8_empties_2
      simp (disch := omega) only [zi_t, zi_f, bnd_t, zg_in, zx, nI_ltI, nI_leI, nI_eq, nI_add, pk_mul, pk_sub, mup_s, mup_c, mup_j, mrw_c, if_pos, if_neg, zm_1, zm_2, zm_3, zm_4, zm_5, zm_6, zm_7, zm_8, zm_9, zf_0, zf_1, zf_2, zf_3, zf_4, zf_5, zf_6, zf_7, zf_8, zf_9, zf_10, zf_14, zf_15, zf_16, zf_18, zf_19, zf_20, zf_24, zf_30, zf_31, zf_32, zf_33, zf_99, zf_100, zf_160, zf_200, zf_287, zf_288, zf_300, zf_1000, zf_1023, zf_1024, zf_1600, zf_3840, zf_25600, zf_36000, zf_1000000, zf_1000000000, zf_2000000000, zf_11560, za_1, za_2, za_4, za_5, za_6, za_7, za_8, za_9, za_10, za_11, za_12, za_14, za_15, za_22, za_23, za_25, za_26, za_27, za_28, za_29, za_30, za_31, za_32, za_33, za_34, za_35, za_41, za_42, za_43, za_44, za_45, za_46, za_47, za_48, za_49, za_61, za_62, za_63, za_64, za_65, za_71, za_72, za_73, za_74, za_75, za_76, za_77, za_78, za_79, za_80, za_81, za_82, za_83, za_84, za_85, za_86, za_87, za_88, za_89, za_90, za_91, za_92, za_93, za_94, za_95, za_96, za_97, za_98, za_99, za_100, za_101, za_102, za_103, za_104, za_105, za_106, za_107, za_108]
  · rintro g m1 ⟨i1, i2⟩
    refine ⟨m1, ?_, i1, i2⟩
    show S_X8_empties_2 N (L_X8_empties_2 N g) m1 (nI d) (nI 288) = _
    unfold S_X8_empties_2
    simp (disch := omega) only [zi_t, zi_f, bnd_t, zg_in, zx, nI_ltI, nI_leI, nI_eq, nI_add, pk_mul, pk_sub, mup_s, mup_c, mup_j, mrw_c, if_pos, if_neg, zm_1, zm_2, zm_3, zm_4, zm_5, zm_6, zm_7, zm_8, zm_9, zf_0, zf_1, zf_2, zf_3, zf_4, zf_5, zf_6, zf_7, zf_8, zf_9, zf_10, zf_14, zf_15, zf_16, zf_18, zf_19, zf_20, zf_24, zf_30, zf_31, zf_32, zf_33, zf_99, zf_100, zf_160, zf_200, zf_287, zf_288, zf_300, zf_1000, zf_1023, zf_1024, zf_1600, zf_3840, zf_25600, zf_36000, zf_1000000, zf_1000000000, zf_2000000000, zf_11560, za_1, za_2, za_4, za_5, za_6, za_7, za_8, za_9, za_10, za_11, za_12, za_14, za_15, za_22, za_23, za_25, za_26, za_27, za_28, za_29, za_30, za_31, za_32, za_33, za_34, za_35, za_41, za_42, za_43, za_44, za_45, za_46, za_47, za_48, za_49, za_61, za_62, za_63, za_64, za_65, za_71, za_72, za_73, za_74, za_75, za_76, za_77, za_78, za_79, za_80, za_81, za_82, za_83, za_84, za_85, za_86, za_87, za_88, za_89, za_90, za_91, za_92, za_93, za_94, za_95, za_96, za_97, za_98, za_99, za_100, za_101, za_102, za_103, za_104, za_105, za_106, za_107, za_108]
theorem clo_cg {R : Nat → Nat → Prop} {K K' : Nat → Prop} (h : ∀ a, K a ↔ K' a) (b : Nat) : CloK R K b ↔ CloK R K' b := by
  constructor
  · rintro ⟨a, ha, hr⟩; exact ⟨a, (h a).mp ha, hr⟩
  · rintro ⟨a, ha, hr⟩; exact ⟨a, (h a).mpr ha, hr⟩
abbrev InR (m : Mem) (d : Nat) : Nat → Prop := fun a => a < 288 ∧ At m d a
/-- what a row takes from the one before -/
def GI (u : Bool) (L : ArL) (w : List Nat) (δ : Nat → Nat) (d x : Nat) (m0 m : Mem) (fl : Bool) : Prop := ORw (d + 1) m0 m ∧ Bo m (d + 1) ∧ (∀ a, a < 288 → At m (d + 1) a → NxK (wU u) L w δ false x (InR m0 d) a) ∧ (fl = true ↔ ∃ a, a < 288 ∧ At m (d + 1) a)
def GC (u : Bool) (L : ArL) (w : List Nat) (δ : Nat → Nat) (d x : Nat) (m0 m : Mem) (J : Nat) : Prop := ∀ j q p r, j < J → L[j]? = some q → syW (wU u) q = x → p ≤ w.length → bhd u w q p = some r → At m0 d (32 * p + fr q.1) → δ (32 * r + too q.1) < 1000000000 → At m (d + 1) (32 * r + too q.1)
theorem GI.at0 {u : Bool} {L : ArL} {w : List Nat} {δ : Nat → Nat} {d x a : Nat} {m0 m : Mem} {fl : Bool} (h : GI u L w δ d x m0 m fl) (ha : a < 288) : m 102 (288 * d + a) = m0 102 (288 * d + a) := h.1.2 _ (by omega)
theorem mo_goesBy {N i n d x : Nat} {u : Bool} {f : Nat → Bool} {L : ArL} {w : List Nat} {δ : Nat → Nat} {m0 : Mem} (hN : 40000 < N) (hG : GD i n L w) (hM0 : MLk m0 i n f L w δ) (hd : d + 1 < 300) (hb : Bo m0 d) (hx : x < 8) :
    ∃ b m', F_X8_goesBy N m0 (nI i) (bI u) (nI d) (nI x) = some (bI b, m') ∧ ORw (d + 1) m0 m' ∧ (b = true ↔ ∃ y, NxK (wU u) L w δ false x (InR m0 d) y) ∧ (b = true → Bo m' (d + 1) ∧ ∀ a, a < 288 → (At m' (d + 1) a ↔ CloK (Sy (wU u) L w δ false 8) (NxK (wU u) L w δ false x (InR m0 d)) a)) := by
  have hG' := hG
  obtain ⟨hi, hok, hl, hn, hwl, hwx, _⟩ := hG'
  obtain ⟨m1, c1, c2, c3⟩ := mo_empties (N := N) (d := d + 1) (m := m0) hN hd
  unfold F_X8_goesBy
  simp (disch := omega) only [zi_t, zi_f, bnd_t, zg_in, zx, nI_ltI, nI_leI, nI_eq, nI_add, pk_mul, pk_sub, mup_s, mup_c, mup_j, mrw_c, if_pos, if_neg, zm_1, zm_2, zm_3, zm_4, zm_5, zm_6, zm_7, zm_8, zm_9, zf_0, zf_1, zf_2, zf_3, zf_4, zf_5, zf_6, zf_7, zf_8, zf_9, zf_10, zf_14, zf_15, zf_16, zf_18, zf_19, zf_20, zf_24, zf_30, zf_31, zf_32, zf_33, zf_99, zf_100, zf_160, zf_200, zf_287, zf_288, zf_300, zf_1000, zf_1023, zf_1024, zf_1600, zf_3840, zf_25600, zf_36000, zf_1000000, zf_1000000000, zf_2000000000, zf_11560, za_1, za_2, za_4, za_5, za_6, za_7, za_8, za_9, za_10, za_11, za_12, za_14, za_15, za_22, za_23, za_25, za_26, za_27, za_28, za_29, za_30, za_31, za_32, za_33, za_34, za_35, za_41, za_42, za_43, za_44, za_45, za_46, za_47, za_48, za_49, za_61, za_62, za_63, za_64, za_65, za_71, za_72, za_73, za_74, za_75, za_76, za_77, za_78, za_79, za_80, za_81, za_82, za_83, za_84, za_85, za_86, za_87, za_88, za_89, za_90, za_91, za_92, za_93, za_94, za_95, za_96, za_97, za_98, za_99, za_100, za_101, za_102, za_103, za_104, za_105, za_106, za_107, za_108]
  rw [calv_t c1]
  try simp (disch := omega) only [zi_t, zi_f, bnd_t, zg_in, zx, nI_ltI, nI_leI, nI_eq, nI_add, pk_mul, pk_sub, mup_s, mup_c, mup_j, mrw_c, if_pos, if_neg, zm_1, zm_2, zm_3, zm_4, zm_5, zm_6, zm_7, zm_8, zm_9, zf_0, zf_1, zf_2, zf_3, zf_4, zf_5, zf_6, zf_7, zf_8, zf_9, zf_10, zf_14, zf_15, zf_16, zf_18, zf_19, zf_20, zf_24, zf_30, zf_31, zf_32, zf_33, zf_99, zf_100, zf_160, zf_200, zf_287, zf_288, zf_300, zf_1000, zf_1023, zf_1024, zf_1600, zf_3840, zf_25600, zf_36000, zf_1000000, zf_1000000000, zf_2000000000, zf_11560, za_1, za_2, za_4, za_5, za_6, za_7, za_8, za_9, za_10, za_11, za_12, za_14, za_15, za_22, za_23, za_25, za_26, za_27, za_28, za_29, za_30, za_31, za_32, za_33, za_34, za_35, za_41, za_42, za_43, za_44, za_45, za_46, za_47, za_48, za_49, za_61, za_62, za_63, za_64, za_65, za_71, za_72, za_73, za_74, za_75, za_76, za_77, za_78, za_79, za_80, za_81, za_82, za_83, za_84, za_85, za_86, za_87, za_88, za_89, za_90, za_91, za_92, za_93, za_94, za_95, za_96, za_97, za_98, za_99, za_100, za_101, za_102, za_103, za_104, za_105, za_106, za_107, za_108]
  refine loopF (σ := Mem × Bool) (fun g x' j => L_X8_goesBy_17 N g x'.1 (nI i) (bI u) (nI d) (nI x) (bI x'.2) (nI (160 * i + j))) L.length (fun j x' => GI u L w δ d x m0 x'.1 x'.2 ∧ GC u L w δ d x m0 x'.1 j) (fun o => ∃ b m', o = some (bI b, m') ∧ ORw (d + 1) m0 m' ∧ (b = true ↔ ∃ y, NxK (wU u) L w δ false x (InR m0 d) y) ∧ (b = true → Bo m' (d + 1) ∧ ∀ a, a < 288 → (At m' (d + 1) a ↔ CloK (Sy (wU u) L w δ false 8) (NxK (wU u) L w δ false x (InR m0 d)) a))) ?_ ?_ N 0 (m1, false) (Nat.zero_le _) ⟨⟨c2, fun a ha => Or.inl (c3 a ha), fun a ha hA => absurd hA (At.no (c3 a ha)), ⟨fun h => (by cases h), fun ⟨a, ha, hA⟩ => absurd hA (At.no (c3 a ha))⟩⟩, fun j q p r hj => absurd hj (Nat.not_lt_zero _)⟩ (by omega)
  · rintro g j ⟨m2, fl⟩ hj ⟨i1, i2⟩
    have i1 : GI u L w δ d x m0 m2 fl := i1
    have i2 : GC u L w δ d x m0 m2 j := i2
    have h1 := hM0.ow i1.1
    obtain ⟨q, hq⟩ : ∃ q, L[j]? = some q := ⟨_, List.getElem?_eq_getElem hj⟩
    have hqL := List.mem_of_getElem? hq
    have hqm := hok q hqL
    have f1 := hqm.2.1
    have t1 := hqm.2.2.1
    have hsl := syW_le (way := wU u) hqm
    have e74 := h1.1.1.2.2.1
    left
    show ∃ s' : Mem × Bool, _ ∧ S_X8_goesBy_17 N (L_X8_goesBy_17 N g) m2 (nI i) (bI u) (nI d) (nI x) (bI fl) (nI (160 * i + j)) = _
    unfold S_X8_goesBy_17
    simp (disch := omega) only [zi_t, zi_f, bnd_t, zg_in, zx, nI_ltI, nI_leI, nI_eq, nI_add, pk_mul, pk_sub, mup_s, mup_c, mup_j, mrw_c, if_pos, if_neg, zm_1, zm_2, zm_3, zm_4, zm_5, zm_6, zm_7, zm_8, zm_9, zf_0, zf_1, zf_2, zf_3, zf_4, zf_5, zf_6, zf_7, zf_8, zf_9, zf_10, zf_14, zf_15, zf_16, zf_18, zf_19, zf_20, zf_24, zf_30, zf_31, zf_32, zf_33, zf_99, zf_100, zf_160, zf_200, zf_287, zf_288, zf_300, zf_1000, zf_1023, zf_1024, zf_1600, zf_3840, zf_25600, zf_36000, zf_1000000, zf_1000000000, zf_2000000000, zf_11560, za_1, za_2, za_4, za_5, za_6, za_7, za_8, za_9, za_10, za_11, za_12, za_14, za_15, za_22, za_23, za_25, za_26, za_27, za_28, za_29, za_30, za_31, za_32, za_33, za_34, za_35, za_41, za_42, za_43, za_44, za_45, za_46, za_47, za_48, za_49, za_61, za_62, za_63, za_64, za_65, za_71, za_72, za_73, za_74, za_75, za_76, za_77, za_78, za_79, za_80, za_81, za_82, za_83, za_84, za_85, za_86, za_87, za_88, za_89, za_90, za_91, za_92, za_93, za_94, za_95, za_96, za_97, za_98, za_99, za_100, za_101, za_102, za_103, za_104, za_105, za_106, za_107, za_108, e74]
    refine loopF (σ := Mem × Bool) (fun k x' p => L_X8_goesBy_37 N (L_X8_goesBy_17 N g) k x'.1 (nI i) (bI u) (nI d) (nI x) (bI x'.2) (nI (160 * i + j)) (nI p)) (w.length + 1) (fun p x' => GI u L w δ d x m0 x'.1 x'.2 ∧ GC u L w δ d x m0 x'.1 j ∧ ∀ p' r, p' < p → syW (wU u) q = x → bhd u w q p' = some r → At m0 d (32 * p' + fr q.1) → δ (32 * r + too q.1) < 1000000000 → At x'.1 (d + 1) (32 * r + too q.1)) (fun o => ∃ s' : Mem × Bool, (GI u L w δ d x m0 s'.1 s'.2 ∧ GC u L w δ d x m0 s'.1 (j + 1)) ∧ o = L_X8_goesBy_17 N g s'.1 (nI i) (bI u) (nI d) (nI x) (bI s'.2) (nI (160 * i + (j + 1)))) ?_ ?_ N 0 (m2, fl) (Nat.zero_le _) ⟨i1, i2, fun p' r hp' => absurd hp' (Nat.not_lt_zero _)⟩ (by omega)
    · rintro k p ⟨m3, fl3⟩ hp ⟨j1, j2, j3⟩
      have j1 : GI u L w δ d x m0 m3 fl3 := j1
      have j2 : GC u L w δ d x m0 m3 j := j2
      have j3 : ∀ p' r, p' < p → syW (wU u) q = x → bhd u w q p' = some r → At m0 d (32 * p' + fr q.1) → δ (32 * r + too q.1) < 1000000000 → At m3 (d + 1) (32 * r + too q.1) := j3
      have h2 := hM0.ow j1.1
      have e702 := h2.1.2.1
      have hout := mo_outOf (N := N) (u := u) h2.1.1 hi hq (by omega) hok
      by_cases c8 : syW (wU u) q = x
      · rw [c8] at hout
        have hb3 : Bo m3 d := fun a ha => by rw [j1.at0 ha]; exact hb a ha
        obtain ⟨b, m4, g1, g2⟩ := mo_goesOn (N := N) (d := d) (e := d + 1) hG h2 hq (by omega) (by omega : p ≤ w.length) (by omega) hd hb3 j1.2.1
        left
        show ∃ s' : Mem × Bool, _ ∧ S_X8_goesBy_37 N (L_X8_goesBy_17 N g) (L_X8_goesBy_37 N (L_X8_goesBy_17 N g) k) m3 (nI i) (bI u) (nI d) (nI x) (bI fl3) (nI (160 * i + j)) (nI p) = _
        refine ⟨(m4, b || fl3), ?_, ?_⟩
        · rcases g2 with ⟨hb1, r, x1, x2, x3, x4, hm4⟩ | ⟨hb1, hm4, x1⟩
          · have hr2 := (bhd_eg hqL (by omega : p ≤ w.length) x1).1
            have hA0 : At m0 d (32 * p + fr q.1) := by
              unfold At
              rw [← j1.at0 (by omega)]
              exact x2
            rw [hb1, hm4]
            refine ⟨⟨j1.1.up (by omega), j1.2.1.up, fun a ha hA => ?_, ⟨fun _ => ⟨_, (by omega : 32 * r + too q.1 < 288), At.up.mpr (Or.inl rfl)⟩, fun _ => rfl⟩⟩, fun j' q' p' r' hj' hq' hs' hp' hr' hA' hδ' => At.up.mpr (Or.inr (j2 j' q' p' r' hj' hq' hs' hp' hr' hA' hδ')), fun p' r' hp' hs' hr' hA' hδ' => ?_⟩
            · rcases At.up.mp hA with e | e
              · rw [e]
                refine ⟨_, ⟨by omega, hA0⟩, ?_⟩
                rw [← c8]
                exact sy_of hqL (by omega) x1 x3
              · exact j1.2.2.1 a ha e
            · refine At.up.mpr ?_
              by_cases e : p' = p
              · rw [e, x1] at hr'
                have e2 := Option.some.inj hr'
                rw [e2]
                exact Or.inl rfl
              · exact Or.inr (j3 p' r' (by omega) hs' hr' hA' hδ')
          · rw [hb1, hm4]
            refine ⟨j1, j2, fun p' r' hp' hs' hr' hA' hδ' => ?_⟩
            by_cases e : p' = p
            · rw [e] at hr' hA'
              refine x1 r' hr' ?_ hδ'
              unfold At
              rw [j1.at0 (by omega)]
              exact hA'
            · exact j3 p' r' (by omega) hs' hr' hA' hδ'
        · unfold S_X8_goesBy_37 B_X8_goesBy_80 B_X8_goesBy_85
          simp (disch := omega) only [zi_t, zi_f, bnd_t, zg_in, zx, nI_ltI, nI_leI, nI_eq, nI_add, pk_mul, pk_sub, mup_s, mup_c, mup_j, mrw_c, if_pos, if_neg, zm_1, zm_2, zm_3, zm_4, zm_5, zm_6, zm_7, zm_8, zm_9, zf_0, zf_1, zf_2, zf_3, zf_4, zf_5, zf_6, zf_7, zf_8, zf_9, zf_10, zf_14, zf_15, zf_16, zf_18, zf_19, zf_20, zf_24, zf_30, zf_31, zf_32, zf_33, zf_99, zf_100, zf_160, zf_200, zf_287, zf_288, zf_300, zf_1000, zf_1023, zf_1024, zf_1600, zf_3840, zf_25600, zf_36000, zf_1000000, zf_1000000000, zf_2000000000, zf_11560, za_1, za_2, za_4, za_5, za_6, za_7, za_8, za_9, za_10, za_11, za_12, za_14, za_15, za_22, za_23, za_25, za_26, za_27, za_28, za_29, za_30, za_31, za_32, za_33, za_34, za_35, za_41, za_42, za_43, za_44, za_45, za_46, za_47, za_48, za_49, za_61, za_62, za_63, za_64, za_65, za_71, za_72, za_73, za_74, za_75, za_76, za_77, za_78, za_79, za_80, za_81, za_82, za_83, za_84, za_85, za_86, za_87, za_88, za_89, za_90, za_91, za_92, za_93, za_94, za_95, za_96, za_97, za_98, za_99, za_100, za_101, za_102, za_103, za_104, za_105, za_106, za_107, za_108, e702]
          rw [cal_t hout]
          simp (disch := omega) only [zi_t, zi_f, bnd_t, zg_in, zx, nI_ltI, nI_leI, nI_eq, nI_add, pk_mul, pk_sub, mup_s, mup_c, mup_j, mrw_c, if_pos, if_neg, zm_1, zm_2, zm_3, zm_4, zm_5, zm_6, zm_7, zm_8, zm_9, zf_0, zf_1, zf_2, zf_3, zf_4, zf_5, zf_6, zf_7, zf_8, zf_9, zf_10, zf_14, zf_15, zf_16, zf_18, zf_19, zf_20, zf_24, zf_30, zf_31, zf_32, zf_33, zf_99, zf_100, zf_160, zf_200, zf_287, zf_288, zf_300, zf_1000, zf_1023, zf_1024, zf_1600, zf_3840, zf_25600, zf_36000, zf_1000000, zf_1000000000, zf_2000000000, zf_11560, za_1, za_2, za_4, za_5, za_6, za_7, za_8, za_9, za_10, za_11, za_12, za_14, za_15, za_22, za_23, za_25, za_26, za_27, za_28, za_29, za_30, za_31, za_32, za_33, za_34, za_35, za_41, za_42, za_43, za_44, za_45, za_46, za_47, za_48, za_49, za_61, za_62, za_63, za_64, za_65, za_71, za_72, za_73, za_74, za_75, za_76, za_77, za_78, za_79, za_80, za_81, za_82, za_83, za_84, za_85, za_86, za_87, za_88, za_89, za_90, za_91, za_92, za_93, za_94, za_95, za_96, za_97, za_98, za_99, za_100, za_101, za_102, za_103, za_104, za_105, za_106, za_107, za_108]
          rw [cal_t g1]
          cases b <;> cases fl3
          all_goals simp (disch := omega) only [zi_t, zi_f, bnd_t, zg_in, zx, nI_ltI, nI_leI, nI_eq, nI_add, pk_mul, pk_sub, mup_s, mup_c, mup_j, mrw_c, if_pos, if_neg, zm_1, zm_2, zm_3, zm_4, zm_5, zm_6, zm_7, zm_8, zm_9, zf_0, zf_1, zf_2, zf_3, zf_4, zf_5, zf_6, zf_7, zf_8, zf_9, zf_10, zf_14, zf_15, zf_16, zf_18, zf_19, zf_20, zf_24, zf_30, zf_31, zf_32, zf_33, zf_99, zf_100, zf_160, zf_200, zf_287, zf_288, zf_300, zf_1000, zf_1023, zf_1024, zf_1600, zf_3840, zf_25600, zf_36000, zf_1000000, zf_1000000000, zf_2000000000, zf_11560, za_1, za_2, za_4, za_5, za_6, za_7, za_8, za_9, za_10, za_11, za_12, za_14, za_15, za_22, za_23, za_25, za_26, za_27, za_28, za_29, za_30, za_31, za_32, za_33, za_34, za_35, za_41, za_42, za_43, za_44, za_45, za_46, za_47, za_48, za_49, za_61, za_62, za_63, za_64, za_65, za_71, za_72, za_73, za_74, za_75, za_76, za_77, za_78, za_79, za_80, za_81, za_82, za_83, za_84, za_85, za_86, za_87, za_88, za_89, za_90, za_91, za_92, za_93, za_94, za_95, za_96, za_97, za_98, za_99, za_100, za_101, za_102, za_103, za_104, za_105, za_106, za_107, za_108, bI_t, bI_f, Bool.true_or, Bool.false_or]
      · right
        show ∃ s' : Mem × Bool, _ ∧ S_X8_goesBy_37 N (L_X8_goesBy_17 N g) (L_X8_goesBy_37 N (L_X8_goesBy_17 N g) k) m3 (nI i) (bI u) (nI d) (nI x) (bI fl3) (nI (160 * i + j)) (nI p) = _
        refine ⟨(m3, fl3), ⟨j1, fun j' q' p' r hj' hq' hs' hp' hr hA hδ => ?_⟩, ?_⟩
        · by_cases e : j' = j
          · rw [e, hq] at hq'
            have e2 := Option.some.inj hq'
            rw [← e2] at hs'
            exact absurd hs' c8
          · exact j2 j' q' p' r (by omega) hq' hs' hp' hr hA hδ
        · unfold S_X8_goesBy_37 B_X8_goesBy_93
          simp (disch := omega) only [zi_t, zi_f, bnd_t, zg_in, zx, nI_ltI, nI_leI, nI_eq, nI_add, pk_mul, pk_sub, mup_s, mup_c, mup_j, mrw_c, if_pos, if_neg, zm_1, zm_2, zm_3, zm_4, zm_5, zm_6, zm_7, zm_8, zm_9, zf_0, zf_1, zf_2, zf_3, zf_4, zf_5, zf_6, zf_7, zf_8, zf_9, zf_10, zf_14, zf_15, zf_16, zf_18, zf_19, zf_20, zf_24, zf_30, zf_31, zf_32, zf_33, zf_99, zf_100, zf_160, zf_200, zf_287, zf_288, zf_300, zf_1000, zf_1023, zf_1024, zf_1600, zf_3840, zf_25600, zf_36000, zf_1000000, zf_1000000000, zf_2000000000, zf_11560, za_1, za_2, za_4, za_5, za_6, za_7, za_8, za_9, za_10, za_11, za_12, za_14, za_15, za_22, za_23, za_25, za_26, za_27, za_28, za_29, za_30, za_31, za_32, za_33, za_34, za_35, za_41, za_42, za_43, za_44, za_45, za_46, za_47, za_48, za_49, za_61, za_62, za_63, za_64, za_65, za_71, za_72, za_73, za_74, za_75, za_76, za_77, za_78, za_79, za_80, za_81, za_82, za_83, za_84, za_85, za_86, za_87, za_88, za_89, za_90, za_91, za_92, za_93, za_94, za_95, za_96, za_97, za_98, za_99, za_100, za_101, za_102, za_103, za_104, za_105, za_106, za_107, za_108, e702]
          rw [cal_t hout]
          simp (disch := omega) only [zi_t, zi_f, bnd_t, zg_in, zx, nI_ltI, nI_leI, nI_eq, nI_add, pk_mul, pk_sub, mup_s, mup_c, mup_j, mrw_c, if_pos, if_neg, zm_1, zm_2, zm_3, zm_4, zm_5, zm_6, zm_7, zm_8, zm_9, zf_0, zf_1, zf_2, zf_3, zf_4, zf_5, zf_6, zf_7, zf_8, zf_9, zf_10, zf_14, zf_15, zf_16, zf_18, zf_19, zf_20, zf_24, zf_30, zf_31, zf_32, zf_33, zf_99, zf_100, zf_160, zf_200, zf_287, zf_288, zf_300, zf_1000, zf_1023, zf_1024, zf_1600, zf_3840, zf_25600, zf_36000, zf_1000000, zf_1000000000, zf_2000000000, zf_11560, za_1, za_2, za_4, za_5, za_6, za_7, za_8, za_9, za_10, za_11, za_12, za_14, za_15, za_22, za_23, za_25, za_26, za_27, za_28, za_29, za_30, za_31, za_32, za_33, za_34, za_35, za_41, za_42, za_43, za_44, za_45, za_46, za_47, za_48, za_49, za_61, za_62, za_63, za_64, za_65, za_71, za_72, za_73, za_74, za_75, za_76, za_77, za_78, za_79, za_80, za_81, za_82, za_83, za_84, za_85, za_86, za_87, za_88, za_89, za_90, za_91, za_92, za_93, za_94, za_95, za_96, za_97, za_98, za_99, za_100, za_101, za_102, za_103, za_104, za_105, za_106, za_107, za_108]
          rfl
    · rintro k ⟨m3, fl3⟩ ⟨j1, j2, j3⟩
      have j1 : GI u L w δ d x m0 m3 fl3 := j1
      have h2 := hM0.ow j1.1
      have e702 := h2.1.2.1
      refine ⟨(m3, fl3), ⟨j1, fun j' q' p' r hj' hq' hs' hp' hr hA hδ => ?_⟩, ?_⟩
      · by_cases e : j' = j
        · rw [e, hq] at hq'
          have e2 := Option.some.inj hq'
          subst e2
          exact j3 p' r (by omega) hs' hr hA hδ
        · exact j2 j' q' p' r (by omega) hq' hs' hp' hr hA hδ
      · show S_X8_goesBy_37 N (L_X8_goesBy_17 N g) (L_X8_goesBy_37 N (L_X8_goesBy_17 N g) k) m3 (nI i) (bI u) (nI d) (nI x) (bI fl3) (nI (160 * i + j)) (nI (w.length + 1)) = _
        unfold S_X8_goesBy_37 B_X8_goesBy_93
        simp (disch := omega) only [zi_t, zi_f, bnd_t, zg_in, zx, nI_ltI, nI_leI, nI_eq, nI_add, pk_mul, pk_sub, mup_s, mup_c, mup_j, mrw_c, if_pos, if_neg, zm_1, zm_2, zm_3, zm_4, zm_5, zm_6, zm_7, zm_8, zm_9, zf_0, zf_1, zf_2, zf_3, zf_4, zf_5, zf_6, zf_7, zf_8, zf_9, zf_10, zf_14, zf_15, zf_16, zf_18, zf_19, zf_20, zf_24, zf_30, zf_31, zf_32, zf_33, zf_99, zf_100, zf_160, zf_200, zf_287, zf_288, zf_300, zf_1000, zf_1023, zf_1024, zf_1600, zf_3840, zf_25600, zf_36000, zf_1000000, zf_1000000000, zf_2000000000, zf_11560, za_1, za_2, za_4, za_5, za_6, za_7, za_8, za_9, za_10, za_11, za_12, za_14, za_15, za_22, za_23, za_25, za_26, za_27, za_28, za_29, za_30, za_31, za_32, za_33, za_34, za_35, za_41, za_42, za_43, za_44, za_45, za_46, za_47, za_48, za_49, za_61, za_62, za_63, za_64, za_65, za_71, za_72, za_73, za_74, za_75, za_76, za_77, za_78, za_79, za_80, za_81, za_82, za_83, za_84, za_85, za_86, za_87, za_88, za_89, za_90, za_91, za_92, za_93, za_94, za_95, za_96, za_97, za_98, za_99, za_100, za_101, za_102, za_103, za_104, za_105, za_106, za_107, za_108, e702]
        rfl
  · rintro g ⟨m2, fl⟩ ⟨i1, i2⟩
    have i1 : GI u L w δ d x m0 m2 fl := i1
    have i2 : GC u L w δ d x m0 m2 L.length := i2
    have h1 := hM0.ow i1.1
    have e74 := h1.1.1.2.2.1
    have hin : ∀ a, InR m2 (d + 1) a ↔ NxK (wU u) L w δ false x (InR m0 d) a := by
      intro a
      constructor
      · rintro ⟨ha, hA⟩; exact i1.2.2.1 a ha hA
      · rintro ⟨a0, ⟨ha0, hA0⟩, hs⟩
        obtain ⟨j, p, q, r, hp, hj, hr, ea, eb, ex, hδ⟩ := sy_bhd hs
        have hqL := List.mem_of_getElem? hj
        have hr2 := (bhd_eg hqL hp hr).1
        have t1 := (hok q hqL).2.2.1
        rw [eb]
        rw [ea] at hA0
        exact ⟨by omega, i2 j q p r (List.getElem?_eq_some_iff.mp hj).1 hj ex hp hr hA0 hδ⟩
    have hfl : fl = true ↔ ∃ y, NxK (wU u) L w δ false x (InR m0 d) y := by
      rw [i1.2.2.2]
      constructor
      · rintro ⟨a, h⟩; exact ⟨a, (hin a).mp h⟩
      · rintro ⟨a, h⟩; exact ⟨a, (hin a).mpr h⟩
    show ∃ b m', S_X8_goesBy_17 N (L_X8_goesBy_17 N g) m2 (nI i) (bI u) (nI d) (nI x) (bI fl) (nI (160 * i + L.length)) = some (bI b, m') ∧ _
    unfold S_X8_goesBy_17 B_X8_goesBy_113
    cases fl with
    | false =>
      refine ⟨false, m2, ?_, i1.1, hfl, fun h => by cases h⟩
      simp (disch := omega) only [zi_t, zi_f, bnd_t, zg_in, zx, nI_ltI, nI_leI, nI_eq, nI_add, pk_mul, pk_sub, mup_s, mup_c, mup_j, mrw_c, if_pos, if_neg, zm_1, zm_2, zm_3, zm_4, zm_5, zm_6, zm_7, zm_8, zm_9, zf_0, zf_1, zf_2, zf_3, zf_4, zf_5, zf_6, zf_7, zf_8, zf_9, zf_10, zf_14, zf_15, zf_16, zf_18, zf_19, zf_20, zf_24, zf_30, zf_31, zf_32, zf_33, zf_99, zf_100, zf_160, zf_200, zf_287, zf_288, zf_300, zf_1000, zf_1023, zf_1024, zf_1600, zf_3840, zf_25600, zf_36000, zf_1000000, zf_1000000000, zf_2000000000, zf_11560, za_1, za_2, za_4, za_5, za_6, za_7, za_8, za_9, za_10, za_11, za_12, za_14, za_15, za_22, za_23, za_25, za_26, za_27, za_28, za_29, za_30, za_31, za_32, za_33, za_34, za_35, za_41, za_42, za_43, za_44, za_45, za_46, za_47, za_48, za_49, za_61, za_62, za_63, za_64, za_65, za_71, za_72, za_73, za_74, za_75, za_76, za_77, za_78, za_79, za_80, za_81, za_82, za_83, za_84, za_85, za_86, za_87, za_88, za_89, za_90, za_91, za_92, za_93, za_94, za_95, za_96, za_97, za_98, za_99, za_100, za_101, za_102, za_103, za_104, za_105, za_106, za_107, za_108, e74, bI_f, gd_t (show isb (nI 0) = true from rfl)]
    | true =>
      obtain ⟨m3, k1, k2, k3, k4⟩ := mo_closes (N := N) (u := u) (d := d + 1) hN hG h1 hd i1.2.1
      refine ⟨true, m3, ?_, i1.1.tr k2, hfl, fun _ => ⟨k3, fun a ha => (k4 a ha).trans (clo_cg hin a)⟩⟩
      simp (disch := omega) only [zi_t, zi_f, bnd_t, zg_in, zx, nI_ltI, nI_leI, nI_eq, nI_add, pk_mul, pk_sub, mup_s, mup_c, mup_j, mrw_c, if_pos, if_neg, zm_1, zm_2, zm_3, zm_4, zm_5, zm_6, zm_7, zm_8, zm_9, zf_0, zf_1, zf_2, zf_3, zf_4, zf_5, zf_6, zf_7, zf_8, zf_9, zf_10, zf_14, zf_15, zf_16, zf_18, zf_19, zf_20, zf_24, zf_30, zf_31, zf_32, zf_33, zf_99, zf_100, zf_160, zf_200, zf_287, zf_288, zf_300, zf_1000, zf_1023, zf_1024, zf_1600, zf_3840, zf_25600, zf_36000, zf_1000000, zf_1000000000, zf_2000000000, zf_11560, za_1, za_2, za_4, za_5, za_6, za_7, za_8, za_9, za_10, za_11, za_12, za_14, za_15, za_22, za_23, za_25, za_26, za_27, za_28, za_29, za_30, za_31, za_32, za_33, za_34, za_35, za_41, za_42, za_43, za_44, za_45, za_46, za_47, za_48, za_49, za_61, za_62, za_63, za_64, za_65, za_71, za_72, za_73, za_74, za_75, za_76, za_77, za_78, za_79, za_80, za_81, za_82, za_83, za_84, za_85, za_86, za_87, za_88, za_89, za_90, za_91, za_92, za_93, za_94, za_95, za_96, za_97, za_98, za_99, za_100, za_101, za_102, za_103, za_104, za_105, za_106, za_107, za_108, e74, bI_t]
      rw [calv_t k1]
      simp (disch := omega) only [zi_t, zi_f, bnd_t, zg_in, zx, nI_ltI, nI_leI, nI_eq, nI_add, pk_mul, pk_sub, mup_s, mup_c, mup_j, mrw_c, if_pos, if_neg, zm_1, zm_2, zm_3, zm_4, zm_5, zm_6, zm_7, zm_8, zm_9, zf_0, zf_1, zf_2, zf_3, zf_4, zf_5, zf_6, zf_7, zf_8, zf_9, zf_10, zf_14, zf_15, zf_16, zf_18, zf_19, zf_20, zf_24, zf_30, zf_31, zf_32, zf_33, zf_99, zf_100, zf_160, zf_200, zf_287, zf_288, zf_300, zf_1000, zf_1023, zf_1024, zf_1600, zf_3840, zf_25600, zf_36000, zf_1000000, zf_1000000000, zf_2000000000, zf_11560, za_1, za_2, za_4, za_5, za_6, za_7, za_8, za_9, za_10, za_11, za_12, za_14, za_15, za_22, za_23, za_25, za_26, za_27, za_28, za_29, za_30, za_31, za_32, za_33, za_34, za_35, za_41, za_42, za_43, za_44, za_45, za_46, za_47, za_48, za_49, za_61, za_62, za_63, za_64, za_65, za_71, za_72, za_73, za_74, za_75, za_76, za_77, za_78, za_79, za_80, za_81, za_82, za_83, za_84, za_85, za_86, za_87, za_88, za_89, za_90, za_91, za_92, za_93, za_94, za_95, za_96, za_97, za_98, za_99, za_100, za_101, za_102, za_103, za_104, za_105, za_106, za_107, za_108, gd_t (show isb (nI 1) = true from rfl)]
