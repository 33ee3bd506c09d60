/-! the model completes a row -/
def CI (u : Bool) (L : ArL) (w : List Nat) (δ : Nat → Nat) (d : Nat) (m0 m : Mem) (fl : Bool) : Prop := ORw d m0 m ∧ Bo m d ∧ (∀ a, a < 288 → At m0 d a → At m d a) ∧ (∀ P : Nat → Prop, (∀ a, a < 288 → At m0 d a → P a) → (∀ a b, P a → Sy (wU u) L w δ false 8 a b → P b) → ∀ a, a < 288 → At m d a → P a) ∧ (fl = false → m = m0) ∧ (fl = true → ∃ a, a < 288 ∧ ¬ At m0 d a ∧ At m d a)
theorem CI.rf {u : Bool} {L : ArL} {w : List Nat} {δ : Nat → Nat} {d : Nat} {m : Mem} (h : Bo m d) : CI u L w δ d m m false := ⟨ORw.rf, h, fun _ _ h => h, fun P h0 _ => h0, fun _ => rfl, fun h => by cases h⟩
theorem CI.up {u : Bool} {L : ArL} {w : List Nat} {δ : Nat → Nat} {d p r n : Nat} {m0 m : Mem} {fl : Bool} {q : Nat × Nat} (h : CI u L w δ d m0 m fl) (hok : DOK n L) (hn : n ≤ 32) (hwl : w.length ≤ 8) (hp : p ≤ w.length) (hq : q ∈ L) (hs : syW (wU u) q = 8) (hr : bhd u w q p = some r) (hA : At m d (32 * p + fr q.1)) (hδ : δ (32 * r + too q.1) < 1000000000) (hne : ¬ At m d (32 * r + too q.1)) : CI u L w δ d m0 (mup m 102 (288 * d + (32 * r + too q.1)) (nI 1)) true := by
  obtain ⟨h1, h2, h3, h4, h5, h6⟩ := h
  have hr2 := (bhd_eg hq hp hr).1
  have f1 := (hok q hq).2.1
  have t1 := (hok q hq).2.2.1
  have hb : 32 * r + too q.1 < 288 := by omega
  refine ⟨h1.up hb, h2.up, fun a ha hA0 => At.up.mpr (Or.inr (h3 a ha hA0)), fun P h0 hcl a ha hA' => ?_, fun h => (by cases h), fun _ => ⟨_, hb, fun hA0 => hne (h3 _ hb hA0), At.up.mpr (Or.inl rfl)⟩⟩
  rcases At.up.mp hA' with e | e
  · rw [e]
    refine hcl _ _ (h4 P h0 hcl _ (by omega) hA) ?_
    rw [← hs]
    exact sy_of hq hp hr hδ
  · exact h4 P h0 hcl a ha e
def ClW (u : Bool) (L : ArL) (w : List Nat) (δ : Nat → Nat) (m : Mem) (d J : Nat) : Prop := ∀ j q p r, j < J → L[j]? = some q → syW (wU u) q = 8 → p ≤ w.length → bhd u w q p = some r → At m d (32 * p + fr q.1) → δ (32 * r + too q.1) < 1000000000 → At m d (32 * r + too q.1)
theorem mo_cPass {N i n d : Nat} {u : Bool} {f : Nat → Bool} {L : ArL} {w : List Nat} {δ : Nat → Nat} {m0 : Mem} {rec : Mem → Int32 → Int32 → Int32 → Int32 → Option Mem} (hN : 40000 < N) (hG : GD i n L w) (hM0 : MLk m0 i n f L w δ) (hd : d < 300) (hb : Bo m0 d) :
    ∃ m' fl, L_X8_closes_18 N rec N m0 (nI i) (bI u) (nI d) (nI 0) (nI (160 * i)) = rec m' (nI i) (bI u) (nI d) (bI fl) ∧ CI u L w δ d m0 m' fl ∧ (fl = false → ClW u L w δ m0 d L.length) := by
  have hG' := hG
  obtain ⟨hi, hok, hl, hn, hwl, hwx, _⟩ := hG'
  refine loopF (σ := Mem × Bool) (fun g x j => L_X8_closes_18 N rec g x.1 (nI i) (bI u) (nI d) (bI x.2) (nI (160 * i + j))) L.length (fun j x => CI u L w δ d m0 x.1 x.2 ∧ (x.2 = false → ClW u L w δ m0 d j)) (fun o => ∃ m' fl, o = rec m' (nI i) (bI u) (nI d) (bI fl) ∧ CI u L w δ d m0 m' fl ∧ (fl = false → ClW u L w δ m0 d L.length)) ?_ ?_ N 0 (m0, false) (Nat.zero_le _) ⟨CI.rf hb, fun _ j q p r hj => absurd hj (Nat.not_lt_zero _)⟩ (by omega)
  · rintro g j ⟨m1, fl⟩ hj ⟨i1, i2⟩
    have i1 : CI u L w δ d m0 m1 fl := i1
    have i2 : fl = false → ClW u L w δ m0 d j := i2
    have h1 := hM0.ow i1.1
    obtain ⟨q, hq⟩ : ∃ q, L[j]? = some q := ⟨_, List.getElem?_eq_getElem hj⟩
    have hqL := List.mem_of_getElem? hq
    have hqm := hok q hqL
    have hsl := syW_le (way := wU u) hqm
    have e74 := h1.1.1.2.2.1
    left
    show ∃ s' : Mem × Bool, _ ∧ S_X8_closes_18 N rec (L_X8_closes_18 N rec g) m1 (nI i) (bI u) (nI d) (bI fl) (nI (160 * i + j)) = _
    unfold S_X8_closes_18
    simp (disch := omega) only [zi_t, zi_f, bnd_t, zg_in, zx, nI_ltI, nI_leI, nI_eq, nI_add, pk_mul, pk_sub, mup_s, mup_c, mup_j, mrw_c, if_pos, if_neg, zm_1, zm_2, zm_3, zm_4, zm_5, zm_6, zm_7, zm_8, zm_9, zf_0, zf_1, zf_2, zf_3, zf_4, zf_5, zf_6, zf_7, zf_8, zf_9, zf_10, zf_14, zf_15, zf_16, zf_18, zf_19, zf_20, zf_24, zf_30, zf_31, zf_32, zf_33, zf_99, zf_100, zf_160, zf_200, zf_287, zf_288, zf_300, zf_1000, zf_1023, zf_1024, zf_1600, zf_3840, zf_25600, zf_36000, zf_1000000, zf_1000000000, zf_2000000000, zf_11560, za_1, za_2, za_4, za_5, za_6, za_7, za_8, za_9, za_10, za_11, za_12, za_14, za_15, za_22, za_23, za_25, za_26, za_27, za_28, za_29, za_30, za_31, za_32, za_33, za_34, za_35, za_41, za_42, za_43, za_44, za_45, za_46, za_47, za_48, za_49, za_61, za_62, za_63, za_64, za_65, za_71, za_72, za_73, za_74, za_75, za_76, za_77, za_78, za_79, za_80, za_81, za_82, za_83, za_84, za_85, za_86, za_87, za_88, za_89, za_90, za_91, za_92, za_93, za_94, za_95, za_96, za_97, za_98, za_99, za_100, za_101, za_102, za_103, za_104, za_105, za_106, za_107, za_108, e74]
    refine loopF (σ := Mem × Bool) (fun k x p => L_X8_closes_38 N rec (L_X8_closes_18 N rec g) k x.1 (nI i) (bI u) (nI d) (bI x.2) (nI (160 * i + j)) (nI p)) (w.length + 1) (fun p x => CI u L w δ d m0 x.1 x.2 ∧ (x.2 = false → ClW u L w δ m0 d j ∧ ∀ p' r, p' < p → bhd u w q p' = some r → At m0 d (32 * p' + fr q.1) → δ (32 * r + too q.1) < 1000000000 → At m0 d (32 * r + too q.1))) (fun o => ∃ s' : Mem × Bool, (CI u L w δ d m0 s'.1 s'.2 ∧ (s'.2 = false → ClW u L w δ m0 d (j + 1))) ∧ o = L_X8_closes_18 N rec g s'.1 (nI i) (bI u) (nI d) (bI s'.2) (nI (160 * i + (j + 1)))) ?_ ?_ N 0 (m1, fl) (Nat.zero_le _) ⟨i1, fun hf => ⟨i2 hf, fun p' r hp' => absurd hp' (Nat.not_lt_zero _)⟩⟩ (by omega)
    · rintro k p ⟨m2, fl2⟩ hp ⟨j1, j2⟩
      have j1 : CI u L w δ d m0 m2 fl2 := j1
      have j2 : fl2 = false → ClW u L w δ m0 d j ∧ ∀ p' r, p' < p → bhd u w q p' = some r → At m0 d (32 * p' + fr q.1) → δ (32 * r + too q.1) < 1000000000 → At m0 d (32 * r + too q.1) := j2
      have h2 := hM0.ow j1.1
      have e702 := h2.1.2.1
      have hout := mo_outOf (N := N) (u := u) h2.1.1 hi hq (by omega) hok
      by_cases c8 : syW (wU u) q = 8
      · rw [c8] at hout
        obtain ⟨b, m3, g1, g2⟩ := mo_goesOn (N := N) (d := d) (e := d) hG h2 hq (by omega) (by omega : p ≤ w.length) hd hd j1.2.1 j1.2.1
        left
        show ∃ s' : Mem × Bool, _ ∧ S_X8_closes_38 N rec (L_X8_closes_18 N rec g) (L_X8_closes_38 N rec (L_X8_closes_18 N rec g) k) m2 (nI i) (bI u) (nI d) (bI fl2) (nI (160 * i + j)) (nI p) = _
        refine ⟨(m3, b || fl2), ?_, ?_⟩
        · rcases g2 with ⟨hb1, r, x1, x2, x3, x4, hm3⟩ | ⟨hb1, hm3, x1⟩
          · have hup := j1.up hok hn hwl (by omega) hqL c8 x1 x2 x3 x4
            rw [hb1, hm3]
            exact ⟨hup, fun hf => absurd (show true = false from hf) (by simp)⟩
          · rw [hb1, hm3]
            refine ⟨j1, fun hf => ?_⟩
            have hf : fl2 = false := hf
            have hme := j1.2.2.2.2.1 hf
            obtain ⟨y1, y2⟩ := j2 hf
            refine ⟨y1, fun p' r hp' hr hA hδ => ?_⟩
            by_cases e : p' = p
            · subst e
              rw [hme] at x1
              exact x1 r hr hA hδ
            · exact y2 p' r (by omega) hr hA hδ
        · unfold S_X8_closes_38 B_X8_closes_79 B_X8_closes_84
          simp (disch := omega) only [zi_t, zi_f, bnd_t, zg_in, zx, nI_ltI, nI_leI, nI_eq, nI_add, pk_mul, pk_sub, mup_s, mup_c, mup_j, mrw_c, if_pos, if_neg, zm_1, zm_2, zm_3, zm_4, zm_5, zm_6, zm_7, zm_8, zm_9, zf_0, zf_1, zf_2, zf_3, zf_4, zf_5, zf_6, zf_7, zf_8, zf_9, zf_10, zf_14, zf_15, zf_16, zf_18, zf_19, zf_20, zf_24, zf_30, zf_31, zf_32, zf_33, zf_99, zf_100, zf_160, zf_200, zf_287, zf_288, zf_300, zf_1000, zf_1023, zf_1024, zf_1600, zf_3840, zf_25600, zf_36000, zf_1000000, zf_1000000000, zf_2000000000, zf_11560, za_1, za_2, za_4, za_5, za_6, za_7, za_8, za_9, za_10, za_11, za_12, za_14, za_15, za_22, za_23, za_25, za_26, za_27, za_28, za_29, za_30, za_31, za_32, za_33, za_34, za_35, za_41, za_42, za_43, za_44, za_45, za_46, za_47, za_48, za_49, za_61, za_62, za_63, za_64, za_65, za_71, za_72, za_73, za_74, za_75, za_76, za_77, za_78, za_79, za_80, za_81, za_82, za_83, za_84, za_85, za_86, za_87, za_88, za_89, za_90, za_91, za_92, za_93, za_94, za_95, za_96, za_97, za_98, za_99, za_100, za_101, za_102, za_103, za_104, za_105, za_106, za_107, za_108, e702]
          rw [cal_t hout]
          simp (disch := omega) only [zi_t, zi_f, bnd_t, zg_in, zx, nI_ltI, nI_leI, nI_eq, nI_add, pk_mul, pk_sub, mup_s, mup_c, mup_j, mrw_c, if_pos, if_neg, zm_1, zm_2, zm_3, zm_4, zm_5, zm_6, zm_7, zm_8, zm_9, zf_0, zf_1, zf_2, zf_3, zf_4, zf_5, zf_6, zf_7, zf_8, zf_9, zf_10, zf_14, zf_15, zf_16, zf_18, zf_19, zf_20, zf_24, zf_30, zf_31, zf_32, zf_33, zf_99, zf_100, zf_160, zf_200, zf_287, zf_288, zf_300, zf_1000, zf_1023, zf_1024, zf_1600, zf_3840, zf_25600, zf_36000, zf_1000000, zf_1000000000, zf_2000000000, zf_11560, za_1, za_2, za_4, za_5, za_6, za_7, za_8, za_9, za_10, za_11, za_12, za_14, za_15, za_22, za_23, za_25, za_26, za_27, za_28, za_29, za_30, za_31, za_32, za_33, za_34, za_35, za_41, za_42, za_43, za_44, za_45, za_46, za_47, za_48, za_49, za_61, za_62, za_63, za_64, za_65, za_71, za_72, za_73, za_74, za_75, za_76, za_77, za_78, za_79, za_80, za_81, za_82, za_83, za_84, za_85, za_86, za_87, za_88, za_89, za_90, za_91, za_92, za_93, za_94, za_95, za_96, za_97, za_98, za_99, za_100, za_101, za_102, za_103, za_104, za_105, za_106, za_107, za_108]
          rw [cal_t g1]
          cases b <;> cases fl2
          all_goals simp (disch := omega) only [zi_t, zi_f, bnd_t, zg_in, zx, nI_ltI, nI_leI, nI_eq, nI_add, pk_mul, pk_sub, mup_s, mup_c, mup_j, mrw_c, if_pos, if_neg, zm_1, zm_2, zm_3, zm_4, zm_5, zm_6, zm_7, zm_8, zm_9, zf_0, zf_1, zf_2, zf_3, zf_4, zf_5, zf_6, zf_7, zf_8, zf_9, zf_10, zf_14, zf_15, zf_16, zf_18, zf_19, zf_20, zf_24, zf_30, zf_31, zf_32, zf_33, zf_99, zf_100, zf_160, zf_200, zf_287, zf_288, zf_300, zf_1000, zf_1023, zf_1024, zf_1600, zf_3840, zf_25600, zf_36000, zf_1000000, zf_1000000000, zf_2000000000, zf_11560, za_1, za_2, za_4, za_5, za_6, za_7, za_8, za_9, za_10, za_11, za_12, za_14, za_15, za_22, za_23, za_25, za_26, za_27, za_28, za_29, za_30, za_31, za_32, za_33, za_34, za_35, za_41, za_42, za_43, za_44, za_45, za_46, za_47, za_48, za_49, za_61, za_62, za_63, za_64, za_65, za_71, za_72, za_73, za_74, za_75, za_76, za_77, za_78, za_79, za_80, za_81, za_82, za_83, za_84, za_85, za_86, za_87, za_88, za_89, za_90, za_91, za_92, za_93, za_94, za_95, za_96, za_97, za_98, za_99, za_100, za_101, za_102, za_103, za_104, za_105, za_106, za_107, za_108, bI_t, bI_f, Bool.true_or, Bool.false_or]
      · right
        show ∃ s' : Mem × Bool, _ ∧ S_X8_closes_38 N rec (L_X8_closes_18 N rec g) (L_X8_closes_38 N rec (L_X8_closes_18 N rec g) k) m2 (nI i) (bI u) (nI d) (bI fl2) (nI (160 * i + j)) (nI p) = _
        refine ⟨(m2, fl2), ⟨j1, fun hf j' q' p' r hj' hq' hs' hp' hr hA hδ => ?_⟩, ?_⟩
        · have hf : fl2 = false := hf
          obtain ⟨y1, y2⟩ := j2 hf
          by_cases e : j' = j
          · rw [e, hq] at hq'
            have e2 := Option.some.inj hq'
            rw [← e2] at hs'
            exact absurd hs' c8
          · exact y1 j' q' p' r (by omega) hq' hs' hp' hr hA hδ
        · unfold S_X8_closes_38 B_X8_closes_92
          simp (disch := omega) only [zi_t, zi_f, bnd_t, zg_in, zx, nI_ltI, nI_leI, nI_eq, nI_add, pk_mul, pk_sub, mup_s, mup_c, mup_j, mrw_c, if_pos, if_neg, zm_1, zm_2, zm_3, zm_4, zm_5, zm_6, zm_7, zm_8, zm_9, zf_0, zf_1, zf_2, zf_3, zf_4, zf_5, zf_6, zf_7, zf_8, zf_9, zf_10, zf_14, zf_15, zf_16, zf_18, zf_19, zf_20, zf_24, zf_30, zf_31, zf_32, zf_33, zf_99, zf_100, zf_160, zf_200, zf_287, zf_288, zf_300, zf_1000, zf_1023, zf_1024, zf_1600, zf_3840, zf_25600, zf_36000, zf_1000000, zf_1000000000, zf_2000000000, zf_11560, za_1, za_2, za_4, za_5, za_6, za_7, za_8, za_9, za_10, za_11, za_12, za_14, za_15, za_22, za_23, za_25, za_26, za_27, za_28, za_29, za_30, za_31, za_32, za_33, za_34, za_35, za_41, za_42, za_43, za_44, za_45, za_46, za_47, za_48, za_49, za_61, za_62, za_63, za_64, za_65, za_71, za_72, za_73, za_74, za_75, za_76, za_77, za_78, za_79, za_80, za_81, za_82, za_83, za_84, za_85, za_86, za_87, za_88, za_89, za_90, za_91, za_92, za_93, za_94, za_95, za_96, za_97, za_98, za_99, za_100, za_101, za_102, za_103, za_104, za_105, za_106, za_107, za_108, e702]
          rw [cal_t hout]
          simp (disch := omega) only [zi_t, zi_f, bnd_t, zg_in, zx, nI_ltI, nI_leI, nI_eq, nI_add, pk_mul, pk_sub, mup_s, mup_c, mup_j, mrw_c, if_pos, if_neg, zm_1, zm_2, zm_3, zm_4, zm_5, zm_6, zm_7, zm_8, zm_9, zf_0, zf_1, zf_2, zf_3, zf_4, zf_5, zf_6, zf_7, zf_8, zf_9, zf_10, zf_14, zf_15, zf_16, zf_18, zf_19, zf_20, zf_24, zf_30, zf_31, zf_32, zf_33, zf_99, zf_100, zf_160, zf_200, zf_287, zf_288, zf_300, zf_1000, zf_1023, zf_1024, zf_1600, zf_3840, zf_25600, zf_36000, zf_1000000, zf_1000000000, zf_2000000000, zf_11560, za_1, za_2, za_4, za_5, za_6, za_7, za_8, za_9, za_10, za_11, za_12, za_14, za_15, za_22, za_23, za_25, za_26, za_27, za_28, za_29, za_30, za_31, za_32, za_33, za_34, za_35, za_41, za_42, za_43, za_44, za_45, za_46, za_47, za_48, za_49, za_61, za_62, za_63, za_64, za_65, za_71, za_72, za_73, za_74, za_75, za_76, za_77, za_78, za_79, za_80, za_81, za_82, za_83, za_84, za_85, za_86, za_87, za_88, za_89, za_90, za_91, za_92, za_93, za_94, za_95, za_96, za_97, za_98, za_99, za_100, za_101, za_102, za_103, za_104, za_105, za_106, za_107, za_108]
          rfl
    · rintro k ⟨m2, fl2⟩ ⟨j1, j2⟩
      have j1 : CI u L w δ d m0 m2 fl2 := j1
      have h2 := hM0.ow j1.1
      have e702 := h2.1.2.1
      refine ⟨(m2, fl2), ⟨j1, fun hf j' q' p' r hj' hq' hs' hp' hr hA hδ => ?_⟩, ?_⟩
      · obtain ⟨y1, y2⟩ := j2 hf
        by_cases e : j' = j
        · rw [e, hq] at hq'
          have e2 := Option.some.inj hq'
          subst e2
          exact y2 p' r (by omega) hr hA hδ
        · exact y1 j' q' p' r (by omega) hq' hs' hp' hr hA hδ
      · show S_X8_closes_38 N rec (L_X8_closes_18 N rec g) (L_X8_closes_38 N rec (L_X8_closes_18 N rec g) k) m2 (nI i) (bI u) (nI d) (bI fl2) (nI (160 * i + j)) (nI (w.length + 1)) = _
        unfold S_X8_closes_38 B_X8_closes_92
        simp (disch := omega) only [zi_t, zi_f, bnd_t, zg_in, zx, nI_ltI, nI_leI, nI_eq, nI_add, pk_mul, pk_sub, mup_s, mup_c, mup_j, mrw_c, if_pos, if_neg, zm_1, zm_2, zm_3, zm_4, zm_5, zm_6, zm_7, zm_8, zm_9, zf_0, zf_1, zf_2, zf_3, zf_4, zf_5, zf_6, zf_7, zf_8, zf_9, zf_10, zf_14, zf_15, zf_16, zf_18, zf_19, zf_20, zf_24, zf_30, zf_31, zf_32, zf_33, zf_99, zf_100, zf_160, zf_200, zf_287, zf_288, zf_300, zf_1000, zf_1023, zf_1024, zf_1600, zf_3840, zf_25600, zf_36000, zf_1000000, zf_1000000000, zf_2000000000, zf_11560, za_1, za_2, za_4, za_5, za_6, za_7, za_8, za_9, za_10, za_11, za_12, za_14, za_15, za_22, za_23, za_25, za_26, za_27, za_28, za_29, za_30, za_31, za_32, za_33, za_34, za_35, za_41, za_42, za_43, za_44, za_45, za_46, za_47, za_48, za_49, za_61, za_62, za_63, za_64, za_65, za_71, za_72, za_73, za_74, za_75, za_76, za_77, za_78, za_79, za_80, za_81, za_82, za_83, za_84, za_85, za_86, za_87, za_88, za_89, za_90, za_91, za_92, za_93, za_94, za_95, za_96, za_97, za_98, za_99, za_100, za_101, za_102, za_103, za_104, za_105, za_106, za_107, za_108, e702]
        rfl
  · rintro g ⟨m1, fl⟩ ⟨i1, i2⟩
    have i1 : CI u L w δ d m0 m1 fl := i1
    have h1 := hM0.ow i1.1
    have e74 := h1.1.1.2.2.1
    refine ⟨m1, fl, ?_, i1, i2⟩
    show S_X8_closes_18 N rec (L_X8_closes_18 N rec g) m1 (nI i) (bI u) (nI d) (bI fl) (nI (160 * i + L.length)) = _
    unfold S_X8_closes_18
    simp (disch := omega) only [zi_t, zi_f, bnd_t, zg_in, zx, nI_ltI, nI_leI, nI_eq, nI_add, pk_mul, pk_sub, mup_s, mup_c, mup_j, mrw_c, if_pos, if_neg, zm_1, zm_2, zm_3, zm_4, zm_5, zm_6, zm_7, zm_8, zm_9, zf_0, zf_1, zf_2, zf_3, zf_4, zf_5, zf_6, zf_7, zf_8, zf_9, zf_10, zf_14, zf_15, zf_16, zf_18, zf_19, zf_20, zf_24, zf_30, zf_31, zf_32, zf_33, zf_99, zf_100, zf_160, zf_200, zf_287, zf_288, zf_300, zf_1000, zf_1023, zf_1024, zf_1600, zf_3840, zf_25600, zf_36000, zf_1000000, zf_1000000000, zf_2000000000, zf_11560, za_1, za_2, za_4, za_5, za_6, za_7, za_8, za_9, za_10, za_11, za_12, za_14, za_15, za_22, za_23, za_25, za_26, za_27, za_28, za_29, za_30, za_31, za_32, za_33, za_34, za_35, za_41, za_42, za_43, za_44, za_45, za_46, za_47, za_48, za_49, za_61, za_62, za_63, za_64, za_65, za_71, za_72, za_73, za_74, za_75, za_76, za_77, za_78, za_79, za_80, za_81, za_82, za_83, za_84, za_85, za_86, za_87, za_88, za_89, za_90, za_91, za_92, za_93, za_94, za_95, za_96, za_97, za_98, za_99, za_100, za_101, za_102, za_103, za_104, za_105, za_106, za_107, za_108, e74]
def ctA (m : Mem) (d : Nat) : Nat := cnt (fun a => decide (m 102 (288 * d + a) = nI 1 ∧ a < 288)) 288
theorem ctA_lt {m m' : Mem} {d a : Nat} (hg : ∀ a, a < 288 → At m d a → At m' d a) (ha : a < 288) (h0 : ¬ At m d a) (h1 : At m' d a) : ctA m d < ctA m' d := by
  refine cnt_lt (a := fun a => decide (m 102 (288 * d + a) = nI 1 ∧ a < 288)) (b := fun a => decide (m' 102 (288 * d + a) = nI 1 ∧ a < 288)) (fun s hs => ?_) (x := a) (decide_eq_true ⟨h1, ha⟩) (decide_eq_false (fun h => h0 h.1)) 288 ha
  have hs := of_decide_eq_true hs
  exact decide_eq_true ⟨hg s hs.2 hs.1, hs.2⟩
theorem ctA_le (m : Mem) (d : Nat) : ctA m d ≤ 288 := cnt_le _ 288
theorem mo_closes {N i n d : Nat} {u : Bool} {f : Nat → Bool} {L : ArL} {w : List Nat} {δ : Nat → Nat} {m0 : Mem} (hN : 40000 < N) (hG : GD i n L w) (hM0 : MLk m0 i n f L w δ) (hd : d < 300) (hb : Bo m0 d) :
    ∃ m', F_X8_closes N m0 (nI i) (bI u) (nI d) = some m' ∧ ORw d m0 m' ∧ Bo m' d ∧ ∀ a, a < 288 → (At m' d a ↔ CloK (Sy (wU u) L w δ false 8) (fun x => x < 288 ∧ At m0 d x) a) := by
  have hG' := hG
  obtain ⟨hi, hok, hl, hn, hwl, hwx, _⟩ := hG'
  unfold F_X8_closes
  refine loopW (σ := Mem × Bool) (fun g x => L_X8_closes_3 N g x.1 (nI i) (bI u) (nI d) (bI x.2)) (fun x => ORw d m0 x.1 ∧ Bo x.1 d ∧ (∀ a, a < 288 → At m0 d a → At x.1 d a) ∧ (∀ a, a < 288 → At x.1 d a → CloK (Sy (wU u) L w δ false 8) (fun x => x < 288 ∧ At m0 d x) a) ∧ (x.2 = false → ClW u L w δ x.1 d L.length)) (fun x => 2 * (288 - ctA x.1 d) + if x.2 = true then 1 else 0) (fun o => ∃ m', o = some m' ∧ ORw d m0 m' ∧ Bo m' d ∧ ∀ a, a < 288 → (At m' d a ↔ CloK (Sy (wU u) L w δ false 8) (fun x => x < 288 ∧ At m0 d x) a)) ?_ N (m0, true) ⟨ORw.rf, hb, fun _ _ h => h, fun a ha hA => ⟨a, ⟨ha, hA⟩, Rc.rf⟩, fun h => by cases h⟩ (by show 2 * (288 - ctA m0 d) + 1 < N; omega)
  rintro g ⟨m1, fl⟩ ⟨i1, i2, i3, i4, i5⟩
  have i1 : ORw d m0 m1 := i1
  have i2 : Bo m1 d := i2
  have i3 : ∀ a, a < 288 → At m0 d a → At m1 d a := i3
  have i4 : ∀ a, a < 288 → At m1 d a → CloK (Sy (wU u) L w δ false 8) (fun x => x < 288 ∧ At m0 d x) a := i4
  have i5 : fl = false → ClW u L w δ m1 d L.length := i5
  cases fl with
  | false =>
    right
    refine ⟨m1, ?_, i1, i2, fun a ha => ⟨i4 a ha, ?_⟩⟩
    · show S_X8_closes_3 N (L_X8_closes_3 N g) m1 (nI i) (bI u) (nI d) (bI false) = _
      unfold S_X8_closes_3
      simp (disch := omega) only [zi_t, zi_f, bnd_t, zg_in, zx, nI_ltI, nI_leI, nI_eq, nI_add, pk_mul, pk_sub, mup_s, mup_c, mup_j, mrw_c, if_pos, if_neg, zm_1, zm_2, zm_3, zm_4, zm_5, zm_6, zm_7, zm_8, zm_9, zf_0, zf_1, zf_2, zf_3, zf_4, zf_5, zf_6, zf_7, zf_8, zf_9, zf_10, zf_14, zf_15, zf_16, zf_18, zf_19, zf_20, zf_24, zf_30, zf_31, zf_32, zf_33, zf_99, zf_100, zf_160, zf_200, zf_287, zf_288, zf_300, zf_1000, zf_1023, zf_1024, zf_1600, zf_3840, zf_25600, zf_36000, zf_1000000, zf_1000000000, zf_2000000000, zf_11560, za_1, za_2, za_4, za_5, za_6, za_7, za_8, za_9, za_10, za_11, za_12, za_14, za_15, za_22, za_23, za_25, za_26, za_27, za_28, za_29, za_30, za_31, za_32, za_33, za_34, za_35, za_41, za_42, za_43, za_44, za_45, za_46, za_47, za_48, za_49, za_61, za_62, za_63, za_64, za_65, za_71, za_72, za_73, za_74, za_75, za_76, za_77, za_78, za_79, za_80, za_81, za_82, za_83, za_84, za_85, za_86, za_87, za_88, za_89, za_90, za_91, za_92, za_93, za_94, za_95, za_96, za_97, za_98, za_99, za_100, za_101, za_102, za_103, za_104, za_105, za_106, za_107, za_108, bI_f]
    · rintro ⟨x, ⟨hx, hxA⟩, hr⟩
      refine (hr.cl (S := fun z => z < 288 ∧ At m1 d z) ⟨hx, i3 x hx hxA⟩ (fun y z hy hs => ?_)).2
      obtain ⟨j, p, q, r, hp, hj, hr, ea, eb, ex, hδ⟩ := sy_bhd hs
      have hqL := List.mem_of_getElem? hj
      have hr2 := (bhd_eg hqL hp hr).1
      have t1 := (hok q hqL).2.2.1
      rw [eb]
      refine ⟨by omega, i5 rfl j q p r (List.getElem?_eq_some_iff.mp hj).1 hj ex hp hr ?_ hδ⟩
      rw [← ea]
      exact hy.2
  | true =>
    left
    obtain ⟨m', fl', s1, s2, s3⟩ := mo_cPass (N := N) (m0 := m1) (rec := L_X8_closes_3 N g) hN hG (hM0.ow i1) hd i2
    obtain ⟨t1, t2, t3, t4, t5, t6⟩ := s2
    have t5 : fl' = false → m' = m1 := t5
    have t3 : ∀ a, a < 288 → At m1 d a → At m' d a := t3
    have t6 : fl' = true → ∃ a, a < 288 ∧ ¬ At m1 d a ∧ At m' d a := t6
    refine ⟨(m', fl'), ⟨i1.tr t1, t2, fun a ha hA => t3 a ha (i3 a ha hA), t4 _ i4 (fun a b ⟨x, hx, hr⟩ hs => ⟨x, hx, hr.st hs⟩), fun hf => ?_⟩, ?_, ?_⟩
    · have hf : fl' = false := hf
      have e := t5 hf
      show ClW u L w δ m' d L.length
      rw [e]
      exact s3 hf
    · show 2 * (288 - ctA m' d) + (if fl' = true then 1 else 0) < 2 * (288 - ctA m1 d) + (if true = true then 1 else 0)
      rw [if_pos (show true = true from rfl)]
      have c1 := ctA_le m' d
      cases fl' with
      | false => rw [t5 rfl, if_neg (by simp)]; omega
      | true =>
        obtain ⟨a, ha, h0, h1⟩ := t6 rfl
        have := ctA_lt t3 ha h0 h1
        rw [if_pos rfl]
        omega
    · show S_X8_closes_3 N (L_X8_closes_3 N g) m1 (nI i) (bI u) (nI d) (bI true) = _
      unfold S_X8_closes_3
      simp (disch := omega) only [zi_t, zi_f, bnd_t, zg_in, zx, nI_ltI, nI_leI, nI_eq, nI_add, pk_mul, pk_sub, mup_s, mup_c, mup_j, mrw_c, if_pos, if_neg, zm_1, zm_2, zm_3, zm_4, zm_5, zm_6, zm_7, zm_8, zm_9, zf_0, zf_1, zf_2, zf_3, zf_4, zf_5, zf_6, zf_7, zf_8, zf_9, zf_10, zf_14, zf_15, zf_16, zf_18, zf_19, zf_20, zf_24, zf_30, zf_31, zf_32, zf_33, zf_99, zf_100, zf_160, zf_200, zf_287, zf_288, zf_300, zf_1000, zf_1023, zf_1024, zf_1600, zf_3840, zf_25600, zf_36000, zf_1000000, zf_1000000000, zf_2000000000, zf_11560, za_1, za_2, za_4, za_5, za_6, za_7, za_8, za_9, za_10, za_11, za_12, za_14, za_15, za_22, za_23, za_25, za_26, za_27, za_28, za_29, za_30, za_31, za_32, za_33, za_34, za_35, za_41, za_42, za_43, za_44, za_45, za_46, za_47, za_48, za_49, za_61, za_62, za_63, za_64, za_65, za_71, za_72, za_73, za_74, za_75, za_76, za_77, za_78, za_79, za_80, za_81, za_82, za_83, za_84, za_85, za_86, za_87, za_88, za_89, za_90, za_91, za_92, za_93, za_94, za_95, za_96, za_97, za_98, za_99, za_100, za_101, za_102, za_103, za_104, za_105, za_106, za_107, za_108, bI_t]
      exact s1
