/-! the model goes by a letter with changes -/
theorem eg_ins {L : ArL} {w : List Nat} {q : Nat × Nat} {p x : Nat} (hq : q ∈ L) (hp : p ≤ w.length) (hx : upr q.1 = x) (h8 : x < 8) : Eg 2 L w (32 * p + fr q.1) 1 (32 * p + too q.1) x := by
  refine ⟨p, hp, Or.inl ⟨q, hq, ?_, rfl, rfl, hx.symm⟩⟩
  show some (if upr q.1 = 8 then 0 else 1) = some 1
  rw [if_neg (by omega)]
theorem eg_chg {L : ArL} {w : List Nat} {q : Nat × Nat} {p x y : Nat} (hq : q ∈ L) (hy : w[p]? = some y) (hx : upr q.1 = x) (h8 : x < 8) : Eg 2 L w (32 * p + fr q.1) (if y = upr q.1 then 0 else 1) (32 * (p + 1) + too q.1) x := by
  have hp := (List.getElem?_eq_some_iff.mp hy).1
  refine ⟨p, by omega, Or.inr (Or.inl ⟨q, hq, ?_, rfl, rfl, hx.symm⟩)⟩
  unfold cRd
  rw [hy]
  show (if upr q.1 = 8 then none else some (if upr q.1 = y then 0 else 1)) = _
  rw [if_neg (by omega)]
  by_cases c : y = upr q.1
  · rw [if_pos c, if_pos c.symm]
  · rw [if_neg c, if_neg (fun h => c h.symm)]
theorem lws_eq {a b : Nat} : (if b ≤ a then b else a) = (if b < a then b else a) := by split <;> split <;> omega
def KH (L : ArL) (w : List Nat) (ρ : List Nat) (m0 m : Mem) (T : Nat → Nat) : Prop := Fx 101 102 [] m0 m ∧ HV m 101 T (SdZ 2 L w ρ)
def KOk (w : List Nat) (V T : Nat → Nat) (q : Nat × Nat) (p : Nat) : Prop := V (32 * p + fr q.1) < 2000000000 → T (32 * p + too q.1) ≤ V (32 * p + fr q.1) + 1 ∧ ∀ y, w[p]? = some y → T (32 * (p + 1) + too q.1) ≤ V (32 * p + fr q.1) + (if y = upr q.1 then 0 else 1)
theorem KOk.le {w : List Nat} {V T T' : Nat → Nat} {q : Nat × Nat} {p : Nat} (h : KOk w V T q p) (hle : ∀ a, T' a ≤ T a) : KOk w V T' q p := fun hv => ⟨Nat.le_trans (hle _) (h hv).1, fun y hy => Nat.le_trans (hle _) ((h hv).2 y hy)⟩
def KPc (L : ArL) (w : List Nat) (V T : Nat → Nat) (x J : Nat) : Prop := ∀ j q p, j < J → L[j]? = some q → upr q.1 = x → p ≤ w.length → KOk w V T q p
theorem KH.mx {i n : Nat} {L : ArL} {w : List Nat} {δ T : Nat → Nat} {ρ : List Nat} {m0 m : Mem} {f : Nat → Bool} (h : KH L w ρ m0 m T) (hM : MLk m0 i n f L w δ) : MLk m i n f L w δ := hM.cg (fun k a b => h.1.1 k (by omega) (by omega)) (h.1.2 2 (by simp))
theorem mo_goesCh {N i n x : Nat} {f : Nat → Bool} {L : ArL} {w : List Nat} {δ : Nat → Nat} {m0 : Mem} {ρ : List Nat} (hN : 40000 < N) (hG : GD i n L w) (hM0 : MLk m0 i n f L w δ) (hδ : IsD (eG 2 L w) (En n f w) δ) (h0 : δ 0 < 1000000000) (hB : BdZ 2 L w) (hρ : ρ.length ≤ 287) (hx : x < 8) (hTB : TBs 2 L w δ m0 ρ) :
    ∃ lv m', F_X8_goesChanged N m0 (nI i) (nI x) = some (nI lv, m') ∧ lv ≤ 2000000000 ∧ Fx 101 102 [] m0 m' ∧ (lv = δ 0 ↔ ∃ b, SdR 2 L w δ true (x :: ρ) b) ∧ TTs 2 L w δ m' (x :: ρ) := by
  have hG' := hG
  obtain ⟨hi, hok, hl, hn, hwl, hwx, _⟩ := hG'
  obtain ⟨V, hV, hmin⟩ := hTB
  have hbd : ∀ b k, SdZ 2 L w (x :: ρ) b k → k ≤ 301000000 ∧ b < 288 := by
    rintro b k ⟨a, c, j, g1, hE, e⟩
    have z1 := hB ρ a j hρ g1
    have z2 := eg_bd (way := 2) hwl hn hok a c b ⟨x, hE⟩
    omega
  unfold F_X8_goesChanged
  refine loopF (fun g (m : Mem) c => L_X8_goesChanged_2 N g m (nI i) (nI x) (nI c)) 288 (fun c m' => Fx 101 102 [] m0 m' ∧ ∀ a, a < c → m' 101 a = nI 2000000000) (fun o => ∃ lv m', o = some (nI lv, m') ∧ lv ≤ 2000000000 ∧ Fx 101 102 [] m0 m' ∧ (lv = δ 0 ↔ ∃ b, SdR 2 L w δ true (x :: ρ) b) ∧ TTs 2 L w δ m' (x :: ρ)) ?_ ?_ N 0 m0 (by omega) ⟨Fx.rf, fun a ha => absurd ha (Nat.not_lt_zero _)⟩ (by omega)
  · rintro g c m1 hc ⟨i1, i2⟩
    left
    refine ⟨mup m1 101 c (nI 2000000000), ⟨i1.up (by omega) (by omega) (by omega), fun a ha => ?_⟩, ?_⟩
    · rw [mup_if]
      by_cases e : a = c
      · rw [if_pos e]
      · rw [if_neg e]; exact i2 a (by omega)
    · show S_X8_goesChanged_2 N (L_X8_goesChanged_2 N g) m1 (nI i) (nI x) (nI c) = _
      unfold S_X8_goesChanged_2
      simp (disch := omega) only [zi_t, zi_f, bnd_t, zg_in, zx, nI_ltI, nI_leI, nI_eq, nI_add, pk_mul, pk_sub, mup_s, mup_c, mup_j, mrw_c, if_pos, if_neg, zm_1, zm_2, zm_3, zm_4, zm_5, zm_6, zm_7, zm_8, zm_9, zf_0, zf_1, zf_2, zf_3, zf_4, zf_5, zf_6, zf_7, zf_8, zf_9, zf_10, zf_14, zf_15, zf_16, zf_18, zf_19, zf_20, zf_24, zf_30, zf_31, zf_32, zf_33, zf_99, zf_100, zf_160, zf_200, zf_287, zf_288, zf_300, zf_1000, zf_1023, zf_1024, zf_1600, zf_3840, zf_25600, zf_36000, zf_1000000, zf_1000000000, zf_2000000000, zf_11560, za_1, za_2, za_4, za_5, za_6, za_7, za_8, za_9, za_10, za_11, za_12, za_14, za_15, za_22, za_23, za_25, za_26, za_27, za_28, za_29, za_30, za_31, za_32, za_33, za_34, za_35, za_41, za_42, za_43, za_44, za_45, za_46, za_47, za_48, za_49, za_61, za_62, za_63, za_64, za_65, za_71, za_72, za_73, za_74, za_75, za_76, za_77, za_78, za_79, za_80, za_81, za_82, za_83, za_84, za_85, za_86, za_87, za_88, za_89, za_90, za_91, za_92, za_93, za_94, za_95, za_96, za_97, za_98, za_99, za_100, za_101, za_102, za_103, za_104, za_105, za_106, za_107, za_108]
  · rintro g ma ⟨ia, ib⟩
    show ∃ lv m', S_X8_goesChanged_2 N (L_X8_goesChanged_2 N g) ma (nI i) (nI x) (nI 288) = some (nI lv, m') ∧ _
    unfold S_X8_goesChanged_2
    simp (disch := omega) only [zi_t, zi_f, bnd_t, zg_in, zx, nI_ltI, nI_leI, nI_eq, nI_add, pk_mul, pk_sub, mup_s, mup_c, mup_j, mrw_c, if_pos, if_neg, zm_1, zm_2, zm_3, zm_4, zm_5, zm_6, zm_7, zm_8, zm_9, zf_0, zf_1, zf_2, zf_3, zf_4, zf_5, zf_6, zf_7, zf_8, zf_9, zf_10, zf_14, zf_15, zf_16, zf_18, zf_19, zf_20, zf_24, zf_30, zf_31, zf_32, zf_33, zf_99, zf_100, zf_160, zf_200, zf_287, zf_288, zf_300, zf_1000, zf_1023, zf_1024, zf_1600, zf_3840, zf_25600, zf_36000, zf_1000000, zf_1000000000, zf_2000000000, zf_11560, za_1, za_2, za_4, za_5, za_6, za_7, za_8, za_9, za_10, za_11, za_12, za_14, za_15, za_22, za_23, za_25, za_26, za_27, za_28, za_29, za_30, za_31, za_32, za_33, za_34, za_35, za_41, za_42, za_43, za_44, za_45, za_46, za_47, za_48, za_49, za_61, za_62, za_63, za_64, za_65, za_71, za_72, za_73, za_74, za_75, za_76, za_77, za_78, za_79, za_80, za_81, za_82, za_83, za_84, za_85, za_86, za_87, za_88, za_89, za_90, za_91, za_92, za_93, za_94, za_95, za_96, za_97, za_98, za_99, za_100, za_101, za_102, za_103, za_104, za_105, za_106, za_107, za_108]
    refine loopF (σ := Mem × (Nat → Nat)) (fun g s j => L_X8_goesChanged_30 N g s.1 (nI i) (nI x) (nI (160 * i + j))) L.length (fun j s => KH L w (x :: ρ) m0 s.1 s.2 ∧ KPc L w V s.2 x j) (fun o => ∃ lv m', o = some (nI lv, m') ∧ lv ≤ 2000000000 ∧ Fx 101 102 [] m0 m' ∧ (lv = δ 0 ↔ ∃ b, SdR 2 L w δ true (x :: ρ) b) ∧ TTs 2 L w δ m' (x :: ρ)) ?_ ?_ N 0 (ma, (fun _ => 2000000000)) (Nat.zero_le _) ⟨⟨ia, fun a ha => ⟨ib a ha, Or.inl rfl⟩⟩, fun j q p hj => absurd hj (Nat.not_lt_zero _)⟩ (by omega)
    · rintro g j ⟨m1, T1⟩ hj ⟨i1, i2⟩
      have i1 : KH L w (x :: ρ) m0 m1 T1 := i1
      have i2 : KPc L w V T1 x j := i2
      have h1 := i1.mx hM0
      obtain ⟨q, hq⟩ : ∃ q, L[j]? = some q := ⟨_, List.getElem?_eq_getElem hj⟩
      have hqL := List.mem_of_getElem? hq
      have hqm := hok q hqL
      have f1 := hqm.2.1
      have t1 := hqm.2.2.1
      have hul := hqm.2.2.2.1
      have e74 := h1.1.1.2.2.1
      left
      show ∃ s' : Mem × (Nat → Nat), _ ∧ S_X8_goesChanged_30 N (L_X8_goesChanged_30 N g) m1 (nI i) (nI x) (nI (160 * i + j)) = _
      unfold S_X8_goesChanged_30
      simp (disch := omega) only [zi_t, zi_f, bnd_t, zg_in, zx, nI_ltI, nI_leI, nI_eq, nI_add, pk_mul, pk_sub, mup_s, mup_c, mup_j, mrw_c, if_pos, if_neg, zm_1, zm_2, zm_3, zm_4, zm_5, zm_6, zm_7, zm_8, zm_9, zf_0, zf_1, zf_2, zf_3, zf_4, zf_5, zf_6, zf_7, zf_8, zf_9, zf_10, zf_14, zf_15, zf_16, zf_18, zf_19, zf_20, zf_24, zf_30, zf_31, zf_32, zf_33, zf_99, zf_100, zf_160, zf_200, zf_287, zf_288, zf_300, zf_1000, zf_1023, zf_1024, zf_1600, zf_3840, zf_25600, zf_36000, zf_1000000, zf_1000000000, zf_2000000000, zf_11560, za_1, za_2, za_4, za_5, za_6, za_7, za_8, za_9, za_10, za_11, za_12, za_14, za_15, za_22, za_23, za_25, za_26, za_27, za_28, za_29, za_30, za_31, za_32, za_33, za_34, za_35, za_41, za_42, za_43, za_44, za_45, za_46, za_47, za_48, za_49, za_61, za_62, za_63, za_64, za_65, za_71, za_72, za_73, za_74, za_75, za_76, za_77, za_78, za_79, za_80, za_81, za_82, za_83, za_84, za_85, za_86, za_87, za_88, za_89, za_90, za_91, za_92, za_93, za_94, za_95, za_96, za_97, za_98, za_99, za_100, za_101, za_102, za_103, za_104, za_105, za_106, za_107, za_108, e74]
      refine loopF (σ := Mem × (Nat → Nat)) (fun k s p => L_X8_goesChanged_49 N (L_X8_goesChanged_30 N g) k s.1 (nI i) (nI x) (nI (160 * i + j)) (nI p)) (w.length + 1) (fun p s => KH L w (x :: ρ) m0 s.1 s.2 ∧ KPc L w V s.2 x j ∧ ∀ p', p' < p → upr q.1 = x → KOk w V s.2 q p') (fun o => ∃ s' : Mem × (Nat → Nat), (KH L w (x :: ρ) m0 s'.1 s'.2 ∧ KPc L w V s'.2 x (j + 1)) ∧ o = L_X8_goesChanged_30 N g s'.1 (nI i) (nI x) (nI (160 * i + (j + 1)))) ?_ ?_ N 0 (m1, T1) (Nat.zero_le _) ⟨i1, i2, fun p' hp' => absurd hp' (Nat.not_lt_zero _)⟩ (by omega)
      · rintro k p ⟨m2, T2⟩ hp ⟨j1, j2, j3⟩
        have j1 : KH L w (x :: ρ) m0 m2 T2 := j1
        have j2 : KPc L w V T2 x j := j2
        have j3 : ∀ p', p' < p → upr q.1 = x → KOk w V T2 q p' := j3
        have h2 := j1.mx hM0
        have hp' : p ≤ w.length := by omega
        have e702 := h2.1.2.1
        obtain ⟨e75, e76, e77, e78, e79⟩ := h2.1.1.2.2.2 j q hq
        by_cases c8 : upr q.1 = x
        · have ev : m2 100 (32 * p + fr q.1) = nI (V (32 * p + fr q.1)) := by rw [j1.1.1 100 (by omega) (by omega)]; exact (hV _ (by omega)).1
          have lv := hV.top (a := 32 * p + fr q.1) (by omega)
          have eb := (j1.2 (32 * p + too q.1) (by omega)).1
          have lb := j1.2.top (a := 32 * p + too q.1) (by omega)
          have hpl := mo_plus (N := N) (m := m2) (k := 1) lv (by omega)
          obtain ⟨v, hv⟩ : ∃ v, v = plN (V (32 * p + fr q.1)) 1 := ⟨_, rfl⟩
          rw [← hv] at hpl
          have hvl : v ≤ 2000000001 := by rw [hv]; unfold plN; split <;> omega
          have hle := mo_lesser (a := T2 (32 * p + too q.1)) (b := v) (by omega) (by omega)
          rw [lws_eq] at hle
          have hup := j1.2.up (b := 32 * p + too q.1) (v := v) (by omega) (fun hlt => by
            have hl2 : v < 2000000000 := by omega
            rw [hv] at hl2
            obtain ⟨x1, x2⟩ := plN_lt hl2
            rw [hv, x2]
            exact ⟨_, _, _, hV.r (a := 32 * p + fr q.1) (by omega) (by omega), eg_ins hqL hp' c8 hx, rfl⟩)
          obtain ⟨m3, hm3⟩ : ∃ m3, m3 = mup m2 101 (32 * p + too q.1) (nI (if v < T2 (32 * p + too q.1) then v else T2 (32 * p + too q.1))) := ⟨_, rfl⟩
          rw [← hm3] at hup
          obtain ⟨T3, hT3⟩ : ∃ T3, T3 = lwV T2 (32 * p + too q.1) v := ⟨_, rfl⟩
          rw [← hT3] at hup
          have hle3 : ∀ a, T3 a ≤ T2 a := fun a => by rw [hT3]; exact lwV_le a
          have h3at : V (32 * p + fr q.1) < 2000000000 → T3 (32 * p + too q.1) ≤ V (32 * p + fr q.1) + 1 := by
            intro hlt
            have z1 : T3 (32 * p + too q.1) ≤ v := by rw [hT3]; exact lwV_at
            have z2 := plN_le (k := 1) hlt
            omega
          have j31 : KH L w (x :: ρ) m0 m3 T3 := ⟨by rw [hm3]; exact j1.1.up (by omega) (by omega) (by omega), hup⟩
          have h3 := j31.mx hM0
          have e702' := h3.1.2.1
          obtain ⟨e75', e76', e77', e78', e79'⟩ := h3.1.1.2.2.2 j q hq
          left
          show ∃ s' : Mem × (Nat → Nat), _ ∧ S_X8_goesChanged_49 N (L_X8_goesChanged_30 N g) (L_X8_goesChanged_49 N (L_X8_goesChanged_30 N g) k) m2 (nI i) (nI x) (nI (160 * i + j)) (nI p) = L_X8_goesChanged_49 N (L_X8_goesChanged_30 N g) k s'.1 (nI i) (nI x) (nI (160 * i + j)) (nI (p + 1))
          rw [c8] at e76
          unfold S_X8_goesChanged_49 B_X8_goesChanged_194
          cases hwp : w[p]? with
          | none =>
            have hp2 : p = w.length := by
              rcases Nat.lt_or_ge p w.length with c | c
              · rw [List.getElem?_eq_getElem c] at hwp; cases hwp
              · omega
            refine ⟨(m3, T3), ⟨j31, fun j' q' p' hj' hq' hs' hp'' => (j2 j' q' p' hj' hq' hs' hp'').le hle3, fun p' hp'' hs' => ?_⟩, ?_⟩
            · by_cases e : p' = p
              · rw [e]
                exact fun hlt => ⟨h3at hlt, fun y hy => by rw [hwp] at hy; cases hy⟩
              · exact (j3 p' (by omega) hs').le hle3
            · simp (disch := omega) only [zi_t, zi_f, bnd_t, zg_in, zx, nI_ltI, nI_leI, nI_eq, nI_add, pk_mul, pk_sub, mup_s, mup_c, mup_j, mrw_c, if_pos, if_neg, zm_1, zm_2, zm_3, zm_4, zm_5, zm_6, zm_7, zm_8, zm_9, zf_0, zf_1, zf_2, zf_3, zf_4, zf_5, zf_6, zf_7, zf_8, zf_9, zf_10, zf_14, zf_15, zf_16, zf_18, zf_19, zf_20, zf_24, zf_30, zf_31, zf_32, zf_33, zf_99, zf_100, zf_160, zf_200, zf_287, zf_288, zf_300, zf_1000, zf_1023, zf_1024, zf_1600, zf_3840, zf_25600, zf_36000, zf_1000000, zf_1000000000, zf_2000000000, zf_11560, za_1, za_2, za_4, za_5, za_6, za_7, za_8, za_9, za_10, za_11, za_12, za_14, za_15, za_22, za_23, za_25, za_26, za_27, za_28, za_29, za_30, za_31, za_32, za_33, za_34, za_35, za_41, za_42, za_43, za_44, za_45, za_46, za_47, za_48, za_49, za_61, za_62, za_63, za_64, za_65, za_71, za_72, za_73, za_74, za_75, za_76, za_77, za_78, za_79, za_80, za_81, za_82, za_83, za_84, za_85, za_86, za_87, za_88, za_89, za_90, za_91, za_92, za_93, za_94, za_95, za_96, za_97, za_98, za_99, za_100, za_101, za_102, za_103, za_104, za_105, za_106, za_107, za_108, e702, e76, e75, e79, ev]
              rw [cal_t hpl]
              simp (disch := omega) only [zi_t, zi_f, bnd_t, zg_in, zx, nI_ltI, nI_leI, nI_eq, nI_add, pk_mul, pk_sub, mup_s, mup_c, mup_j, mrw_c, if_pos, if_neg, zm_1, zm_2, zm_3, zm_4, zm_5, zm_6, zm_7, zm_8, zm_9, zf_0, zf_1, zf_2, zf_3, zf_4, zf_5, zf_6, zf_7, zf_8, zf_9, zf_10, zf_14, zf_15, zf_16, zf_18, zf_19, zf_20, zf_24, zf_30, zf_31, zf_32, zf_33, zf_99, zf_100, zf_160, zf_200, zf_287, zf_288, zf_300, zf_1000, zf_1023, zf_1024, zf_1600, zf_3840, zf_25600, zf_36000, zf_1000000, zf_1000000000, zf_2000000000, zf_11560, za_1, za_2, za_4, za_5, za_6, za_7, za_8, za_9, za_10, za_11, za_12, za_14, za_15, za_22, za_23, za_25, za_26, za_27, za_28, za_29, za_30, za_31, za_32, za_33, za_34, za_35, za_41, za_42, za_43, za_44, za_45, za_46, za_47, za_48, za_49, za_61, za_62, za_63, za_64, za_65, za_71, za_72, za_73, za_74, za_75, za_76, za_77, za_78, za_79, za_80, za_81, za_82, za_83, za_84, za_85, za_86, za_87, za_88, za_89, za_90, za_91, za_92, za_93, za_94, za_95, za_96, za_97, za_98, za_99, za_100, za_101, za_102, za_103, za_104, za_105, za_106, za_107, za_108, eb, hle, e702, e79]
              rw [← hm3]
          | some y =>
            have hp2 := (List.getElem?_eq_some_iff.mp hwp).1
            have hchg := mc_change (N := N) h3.1 hi hq (by omega) hok hwl hwx hwp
            obtain ⟨kc, hkc⟩ : ∃ kc, kc = if y = upr q.1 then 0 else 1 := ⟨_, rfl⟩
            rw [← hkc] at hchg
            have hkl : kc ≤ 1 := by rw [hkc]; split <;> omega
            have eb3 := (j31.2 (32 * (p + 1) + too q.1) (by omega)).1
            have lb3 := j31.2.top (a := 32 * (p + 1) + too q.1) (by omega)
            have hpl3 := mo_plus (N := N) (m := m3) (k := kc) lv (by omega)
            obtain ⟨v3, hv3⟩ : ∃ v3, v3 = plN (V (32 * p + fr q.1)) kc := ⟨_, rfl⟩
            rw [← hv3] at hpl3
            have hvl3 : v3 ≤ 2000000001 := by rw [hv3]; unfold plN; split <;> omega
            have hle3' := mo_lesser (a := T3 (32 * (p + 1) + too q.1)) (b := v3) (by omega) (by omega)
            rw [lws_eq] at hle3'
            have hup3 := j31.2.up (b := 32 * (p + 1) + too q.1) (v := v3) (by omega) (fun hlt => by
              have hl2 : v3 < 2000000000 := by omega
              rw [hv3] at hl2
              obtain ⟨x1, x2⟩ := plN_lt hl2
              rw [hv3, x2]
              refine ⟨_, _, _, hV.r (a := 32 * p + fr q.1) (by omega) (by omega), ?_, rfl⟩
              rw [hkc]
              exact eg_chg hqL hwp c8 hx)
            have hle4 : ∀ a, lwV T3 (32 * (p + 1) + too q.1) v3 a ≤ T2 a := fun a => Nat.le_trans (lwV_le a) (hle3 a)
            refine ⟨(mup m3 101 (32 * (p + 1) + too q.1) (nI (if v3 < T3 (32 * (p + 1) + too q.1) then v3 else T3 (32 * (p + 1) + too q.1))), lwV T3 (32 * (p + 1) + too q.1) v3), ⟨⟨j31.1.up (by omega) (by omega) (by omega), hup3⟩, fun j' q' p' hj' hq' hs' hp'' => (j2 j' q' p' hj' hq' hs' hp'').le hle4, fun p' hp'' hs' => ?_⟩, ?_⟩
            · by_cases e : p' = p
              · rw [e]
                refine fun hlt => ⟨Nat.le_trans (lwV_le _) (h3at hlt), fun y' hy' => ?_⟩
                rw [hwp] at hy'
                have e2 := Option.some.inj hy'
                rw [← e2, ← hkc]
                have z1 : lwV T3 (32 * (p + 1) + too q.1) v3 (32 * (p + 1) + too q.1) ≤ v3 := lwV_at
                have z2 := plN_le (k := kc) hlt
                show lwV T3 (32 * (p + 1) + too q.1) v3 (32 * (p + 1) + too q.1) ≤ _
                omega
              · exact (j3 p' (by omega) hs').le hle4
            · simp (disch := omega) only [zi_t, zi_f, bnd_t, zg_in, zx, nI_ltI, nI_leI, nI_eq, nI_add, pk_mul, pk_sub, mup_s, mup_c, mup_j, mrw_c, if_pos, if_neg, zm_1, zm_2, zm_3, zm_4, zm_5, zm_6, zm_7, zm_8, zm_9, zf_0, zf_1, zf_2, zf_3, zf_4, zf_5, zf_6, zf_7, zf_8, zf_9, zf_10, zf_14, zf_15, zf_16, zf_18, zf_19, zf_20, zf_24, zf_30, zf_31, zf_32, zf_33, zf_99, zf_100, zf_160, zf_200, zf_287, zf_288, zf_300, zf_1000, zf_1023, zf_1024, zf_1600, zf_3840, zf_25600, zf_36000, zf_1000000, zf_1000000000, zf_2000000000, zf_11560, za_1, za_2, za_4, za_5, za_6, za_7, za_8, za_9, za_10, za_11, za_12, za_14, za_15, za_22, za_23, za_25, za_26, za_27, za_28, za_29, za_30, za_31, za_32, za_33, za_34, za_35, za_41, za_42, za_43, za_44, za_45, za_46, za_47, za_48, za_49, za_61, za_62, za_63, za_64, za_65, za_71, za_72, za_73, za_74, za_75, za_76, za_77, za_78, za_79, za_80, za_81, za_82, za_83, za_84, za_85, za_86, za_87, za_88, za_89, za_90, za_91, za_92, za_93, za_94, za_95, za_96, za_97, za_98, za_99, za_100, za_101, za_102, za_103, za_104, za_105, za_106, za_107, za_108, e702, e76, e75, e79, ev]
              rw [cal_t hpl]
              simp (disch := omega) only [zi_t, zi_f, bnd_t, zg_in, zx, nI_ltI, nI_leI, nI_eq, nI_add, pk_mul, pk_sub, mup_s, mup_c, mup_j, mrw_c, if_pos, if_neg, zm_1, zm_2, zm_3, zm_4, zm_5, zm_6, zm_7, zm_8, zm_9, zf_0, zf_1, zf_2, zf_3, zf_4, zf_5, zf_6, zf_7, zf_8, zf_9, zf_10, zf_14, zf_15, zf_16, zf_18, zf_19, zf_20, zf_24, zf_30, zf_31, zf_32, zf_33, zf_99, zf_100, zf_160, zf_200, zf_287, zf_288, zf_300, zf_1000, zf_1023, zf_1024, zf_1600, zf_3840, zf_25600, zf_36000, zf_1000000, zf_1000000000, zf_2000000000, zf_11560, za_1, za_2, za_4, za_5, za_6, za_7, za_8, za_9, za_10, za_11, za_12, za_14, za_15, za_22, za_23, za_25, za_26, za_27, za_28, za_29, za_30, za_31, za_32, za_33, za_34, za_35, za_41, za_42, za_43, za_44, za_45, za_46, za_47, za_48, za_49, za_61, za_62, za_63, za_64, za_65, za_71, za_72, za_73, za_74, za_75, za_76, za_77, za_78, za_79, za_80, za_81, za_82, za_83, za_84, za_85, za_86, za_87, za_88, za_89, za_90, za_91, za_92, za_93, za_94, za_95, za_96, za_97, za_98, za_99, za_100, za_101, za_102, za_103, za_104, za_105, za_106, za_107, za_108, eb, hle, e702, e79]
              rw [← hm3]
              rw [cal_t hchg]
              rw [cal_t hpl3]
              have eb3' : m2 101 (32 * (p + 1) + too q.1) = nI (T3 (32 * (p + 1) + too q.1)) := by rw [← eb3, hm3, mup_j (by omega)]
              rw [eb3', hle3']
        · right
          show ∃ s' : Mem × (Nat → Nat), _ ∧ S_X8_goesChanged_49 N (L_X8_goesChanged_30 N g) (L_X8_goesChanged_49 N (L_X8_goesChanged_30 N g) k) m2 (nI i) (nI x) (nI (160 * i + j)) (nI p) = _
          refine ⟨(m2, T2), ⟨j1, fun j' q' p' hj' hq' hs' hp' => ?_⟩, ?_⟩
          · by_cases e : j' = j
            · rw [e, hq] at hq'
              have e2 := Option.some.inj hq'
              rw [← e2] at hs'
              exact absurd hs' c8
            · exact j2 j' q' p' (by omega) hq' hs' hp'
          · unfold S_X8_goesChanged_49 B_X8_goesChanged_200
            simp (disch := omega) only [zi_t, zi_f, bnd_t, zg_in, zx, nI_ltI, nI_leI, nI_eq, nI_add, pk_mul, pk_sub, mup_s, mup_c, mup_j, mrw_c, if_pos, if_neg, zm_1, zm_2, zm_3, zm_4, zm_5, zm_6, zm_7, zm_8, zm_9, zf_0, zf_1, zf_2, zf_3, zf_4, zf_5, zf_6, zf_7, zf_8, zf_9, zf_10, zf_14, zf_15, zf_16, zf_18, zf_19, zf_20, zf_24, zf_30, zf_31, zf_32, zf_33, zf_99, zf_100, zf_160, zf_200, zf_287, zf_288, zf_300, zf_1000, zf_1023, zf_1024, zf_1600, zf_3840, zf_25600, zf_36000, zf_1000000, zf_1000000000, zf_2000000000, zf_11560, za_1, za_2, za_4, za_5, za_6, za_7, za_8, za_9, za_10, za_11, za_12, za_14, za_15, za_22, za_23, za_25, za_26, za_27, za_28, za_29, za_30, za_31, za_32, za_33, za_34, za_35, za_41, za_42, za_43, za_44, za_45, za_46, za_47, za_48, za_49, za_61, za_62, za_63, za_64, za_65, za_71, za_72, za_73, za_74, za_75, za_76, za_77, za_78, za_79, za_80, za_81, za_82, za_83, za_84, za_85, za_86, za_87, za_88, za_89, za_90, za_91, za_92, za_93, za_94, za_95, za_96, za_97, za_98, za_99, za_100, za_101, za_102, za_103, za_104, za_105, za_106, za_107, za_108, e702, e76]
            rfl
      · rintro k ⟨m2, T2⟩ ⟨j1, j2, j3⟩
        have j1 : KH L w (x :: ρ) m0 m2 T2 := j1
        have h2 := j1.mx hM0
        have e702 := h2.1.2.1
        refine ⟨(m2, T2), ⟨j1, fun j' q' p' hj' hq' hs' hp' => ?_⟩, ?_⟩
        · by_cases e : j' = j
          · rw [e, hq] at hq'
            have e2 := Option.some.inj hq'
            subst e2
            exact j3 p' (by omega) hs'
          · exact j2 j' q' p' (by omega) hq' hs' hp'
        · show S_X8_goesChanged_49 N (L_X8_goesChanged_30 N g) (L_X8_goesChanged_49 N (L_X8_goesChanged_30 N g) k) m2 (nI i) (nI x) (nI (160 * i + j)) (nI (w.length + 1)) = _
          unfold S_X8_goesChanged_49 B_X8_goesChanged_200
          simp (disch := omega) only [zi_t, zi_f, bnd_t, zg_in, zx, nI_ltI, nI_leI, nI_eq, nI_add, pk_mul, pk_sub, mup_s, mup_c, mup_j, mrw_c, if_pos, if_neg, zm_1, zm_2, zm_3, zm_4, zm_5, zm_6, zm_7, zm_8, zm_9, zf_0, zf_1, zf_2, zf_3, zf_4, zf_5, zf_6, zf_7, zf_8, zf_9, zf_10, zf_14, zf_15, zf_16, zf_18, zf_19, zf_20, zf_24, zf_30, zf_31, zf_32, zf_33, zf_99, zf_100, zf_160, zf_200, zf_287, zf_288, zf_300, zf_1000, zf_1023, zf_1024, zf_1600, zf_3840, zf_25600, zf_36000, zf_1000000, zf_1000000000, zf_2000000000, zf_11560, za_1, za_2, za_4, za_5, za_6, za_7, za_8, za_9, za_10, za_11, za_12, za_14, za_15, za_22, za_23, za_25, za_26, za_27, za_28, za_29, za_30, za_31, za_32, za_33, za_34, za_35, za_41, za_42, za_43, za_44, za_45, za_46, za_47, za_48, za_49, za_61, za_62, za_63, za_64, za_65, za_71, za_72, za_73, za_74, za_75, za_76, za_77, za_78, za_79, za_80, za_81, za_82, za_83, za_84, za_85, za_86, za_87, za_88, za_89, za_90, za_91, za_92, za_93, za_94, za_95, za_96, za_97, za_98, za_99, za_100, za_101, za_102, za_103, za_104, za_105, za_106, za_107, za_108, e702]
          rfl
    · rintro g ⟨m1, T1⟩ ⟨i1, i2⟩
      have i1 : KH L w (x :: ρ) m0 m1 T1 := i1
      have i2 : KPc L w V T1 x L.length := i2
      have h1 := i1.mx hM0
      have e74 := h1.1.1.2.2.1
      have hall : ∀ b k, SdZ 2 L w (x :: ρ) b k → δ b < 1000000000 → T1 b ≤ k := by
        rintro b k ⟨a, c, j, g1, hE, e⟩ hb
        obtain ⟨s1, s2⟩ := hδ.st ⟨x, hE⟩ hb
        have z1 := hmin a j g1 s2
        have z2 := hB ρ a j hρ g1
        obtain ⟨p, hp, hE⟩ := hE
        rcases hE with ⟨q, hq, e1, ea, eb, ex⟩ | ⟨q, hq, e1, ea, eb, ex⟩ | ⟨s, hs, e1, ea, eb, ex⟩
        · obtain ⟨jj, hjj⟩ := List.getElem?_of_mem hq
          have hux : upr q.1 = x := ex.symm
          obtain ⟨y1, _⟩ := i2 jj q p (List.getElem?_eq_some_iff.mp hjj).1 hjj hux hp (by rw [← ea]; omega)
          have e1 : some (if upr q.1 = 8 then 0 else 1) = some c := e1
          have e2 := Option.some.inj e1
          rw [if_neg (by omega)] at e2
          rw [← ea, ← eb] at y1
          omega
        · obtain ⟨jj, hjj⟩ := List.getElem?_of_mem hq
          have hux : upr q.1 = x := ex.symm
          obtain ⟨_, y2⟩ := i2 jj q p (List.getElem?_eq_some_iff.mp hjj).1 hjj hux hp (by rw [← ea]; omega)
          unfold cRd at e1
          cases hwp : w[p]? with
          | none => rw [hwp] at e1; cases e1
          | some y =>
            rw [hwp] at e1
            have e1 : (if upr q.1 = 8 then none else some (if upr q.1 = y then 0 else 1)) = some c := e1
            rw [if_neg (by omega)] at e1
            have e2 := Option.some.inj e1
            have y3 := y2 y hwp
            have e3 : (if y = upr q.1 then 0 else 1) = c := by
              rw [← e2]
              by_cases c9 : y = upr q.1
              · rw [if_pos c9, if_pos c9.symm]
              · rw [if_neg c9, if_neg (fun h => c9 h.symm)]
            rw [e3, ← ea, ← eb] at y3
            omega
        · omega
      show ∃ lv m', S_X8_goesChanged_30 N (L_X8_goesChanged_30 N g) m1 (nI i) (nI x) (nI (160 * i + L.length)) = some (nI lv, m') ∧ _
      unfold S_X8_goesChanged_30
      simp (disch := omega) only [zi_t, zi_f, bnd_t, zg_in, zx, nI_ltI, nI_leI, nI_eq, nI_add, pk_mul, pk_sub, mup_s, mup_c, mup_j, mrw_c, if_pos, if_neg, zm_1, zm_2, zm_3, zm_4, zm_5, zm_6, zm_7, zm_8, zm_9, zf_0, zf_1, zf_2, zf_3, zf_4, zf_5, zf_6, zf_7, zf_8, zf_9, zf_10, zf_14, zf_15, zf_16, zf_18, zf_19, zf_20, zf_24, zf_30, zf_31, zf_32, zf_33, zf_99, zf_100, zf_160, zf_200, zf_287, zf_288, zf_300, zf_1000, zf_1023, zf_1024, zf_1600, zf_3840, zf_25600, zf_36000, zf_1000000, zf_1000000000, zf_2000000000, zf_11560, za_1, za_2, za_4, za_5, za_6, za_7, za_8, za_9, za_10, za_11, za_12, za_14, za_15, za_22, za_23, za_25, za_26, za_27, za_28, za_29, za_30, za_31, za_32, za_33, za_34, za_35, za_41, za_42, za_43, za_44, za_45, za_46, za_47, za_48, za_49, za_61, za_62, za_63, za_64, za_65, za_71, za_72, za_73, za_74, za_75, za_76, za_77, za_78, za_79, za_80, za_81, za_82, za_83, za_84, za_85, za_86, za_87, za_88, za_89, za_90, za_91, za_92, za_93, za_94, za_95, za_96, za_97, za_98, za_99, za_100, za_101, za_102, za_103, za_104, za_105, za_106, za_107, za_108, e74]
      refine loopF (σ := Nat) (fun g s c => L_X8_goesChanged_213 N g m1 (nI s) (nI c)) 288 (fun c s => (s = 2000000000 ∨ ∃ b k, SdZ 2 L w (x :: ρ) b k ∧ δ b < 1000000000 ∧ s = k + δ b) ∧ s ≤ 2000000000 ∧ ∀ b, b < c → T1 b < 2000000000 → δ b < 1000000000 → s ≤ T1 b + δ b) (fun o => ∃ lv m', o = some (nI lv, m') ∧ lv ≤ 2000000000 ∧ Fx 101 102 [] m0 m' ∧ (lv = δ 0 ↔ ∃ b, SdR 2 L w δ true (x :: ρ) b) ∧ TTs 2 L w δ m' (x :: ρ)) ?_ ?_ N 0 2000000000 (by omega) ⟨Or.inl rfl, Nat.le_refl _, fun b hb => absurd hb (Nat.not_lt_zero _)⟩ (by omega)
      · rintro k c s hc ⟨l1, l2, l3⟩
        have eT := (i1.2 c hc).1
        have lT := i1.2.top hc
        have e99 := h1.2 c hc
        left
        show ∃ s' : Nat, _ ∧ S_X8_goesChanged_213 N (L_X8_goesChanged_213 N k) m1 (nI s) (nI c) = _
        unfold S_X8_goesChanged_213 B_X8_goesChanged_247 B_X8_goesChanged_270
        by_cases cT : T1 c = 2000000000
        · refine ⟨s, ⟨l1, l2, fun b hb h1 h2 => ?_⟩, ?_⟩
          · by_cases e : b = c
            · rw [e] at h1; omega
            · exact l3 b (by omega) h1 h2
          · rw [cT] at eT
            simp (disch := omega) only [zi_t, zi_f, bnd_t, zg_in, zx, nI_ltI, nI_leI, nI_eq, nI_add, pk_mul, pk_sub, mup_s, mup_c, mup_j, mrw_c, if_pos, if_neg, zm_1, zm_2, zm_3, zm_4, zm_5, zm_6, zm_7, zm_8, zm_9, zf_0, zf_1, zf_2, zf_3, zf_4, zf_5, zf_6, zf_7, zf_8, zf_9, zf_10, zf_14, zf_15, zf_16, zf_18, zf_19, zf_20, zf_24, zf_30, zf_31, zf_32, zf_33, zf_99, zf_100, zf_160, zf_200, zf_287, zf_288, zf_300, zf_1000, zf_1023, zf_1024, zf_1600, zf_3840, zf_25600, zf_36000, zf_1000000, zf_1000000000, zf_2000000000, zf_11560, za_1, za_2, za_4, za_5, za_6, za_7, za_8, za_9, za_10, za_11, za_12, za_14, za_15, za_22, za_23, za_25, za_26, za_27, za_28, za_29, za_30, za_31, za_32, za_33, za_34, za_35, za_41, za_42, za_43, za_44, za_45, za_46, za_47, za_48, za_49, za_61, za_62, za_63, za_64, za_65, za_71, za_72, za_73, za_74, za_75, za_76, za_77, za_78, za_79, za_80, za_81, za_82, za_83, za_84, za_85, za_86, za_87, za_88, za_89, za_90, za_91, za_92, za_93, za_94, za_95, za_96, za_97, za_98, za_99, za_100, za_101, za_102, za_103, za_104, za_105, za_106, za_107, za_108, eT]
        · rcases mF_0 (δ := δ) (a := c) with ⟨y1, y2⟩ | ⟨y1, y2⟩
          · rw [y1] at e99
            refine ⟨s, ⟨l1, l2, fun b hb h1 h2 => ?_⟩, ?_⟩
            · by_cases e : b = c
              · rw [e] at h2; exact absurd h2 y2
              · exact l3 b (by omega) h1 h2
            · simp (disch := omega) only [zi_t, zi_f, bnd_t, zg_in, zx, nI_ltI, nI_leI, nI_eq, nI_add, pk_mul, pk_sub, mup_s, mup_c, mup_j, mrw_c, if_pos, if_neg, zm_1, zm_2, zm_3, zm_4, zm_5, zm_6, zm_7, zm_8, zm_9, zf_0, zf_1, zf_2, zf_3, zf_4, zf_5, zf_6, zf_7, zf_8, zf_9, zf_10, zf_14, zf_15, zf_16, zf_18, zf_19, zf_20, zf_24, zf_30, zf_31, zf_32, zf_33, zf_99, zf_100, zf_160, zf_200, zf_287, zf_288, zf_300, zf_1000, zf_1023, zf_1024, zf_1600, zf_3840, zf_25600, zf_36000, zf_1000000, zf_1000000000, zf_2000000000, zf_11560, za_1, za_2, za_4, za_5, za_6, za_7, za_8, za_9, za_10, za_11, za_12, za_14, za_15, za_22, za_23, za_25, za_26, za_27, za_28, za_29, za_30, za_31, za_32, za_33, za_34, za_35, za_41, za_42, za_43, za_44, za_45, za_46, za_47, za_48, za_49, za_61, za_62, za_63, za_64, za_65, za_71, za_72, za_73, za_74, za_75, za_76, za_77, za_78, za_79, za_80, za_81, za_82, za_83, za_84, za_85, za_86, za_87, za_88, za_89, za_90, za_91, za_92, za_93, za_94, za_95, za_96, za_97, za_98, za_99, za_100, za_101, za_102, za_103, za_104, za_105, za_106, za_107, za_108, eT, e99]
          · rw [y1] at e99
            have hz := i1.2.r hc (by omega)
            have hzb := hbd _ _ hz
            have hle := mo_lesser (a := s) (b := T1 c + δ c) (by omega) (by omega)
            refine ⟨if T1 c + δ c ≤ s then T1 c + δ c else s, ⟨?_, by split <;> omega, fun b hb h1 h2 => ?_⟩, ?_⟩
            · by_cases c9 : T1 c + δ c ≤ s
              · rw [if_pos c9]
                exact Or.inr ⟨_, _, hz, y2, rfl⟩
              · rw [if_neg c9]
                exact l1
            · by_cases e : b = c
              · rw [e]
                split <;> omega
              · have := l3 b (by omega) h1 h2
                split <;> omega
            · simp (disch := omega) only [zi_t, zi_f, bnd_t, zg_in, zx, nI_ltI, nI_leI, nI_eq, nI_add, pk_mul, pk_sub, mup_s, mup_c, mup_j, mrw_c, if_pos, if_neg, zm_1, zm_2, zm_3, zm_4, zm_5, zm_6, zm_7, zm_8, zm_9, zf_0, zf_1, zf_2, zf_3, zf_4, zf_5, zf_6, zf_7, zf_8, zf_9, zf_10, zf_14, zf_15, zf_16, zf_18, zf_19, zf_20, zf_24, zf_30, zf_31, zf_32, zf_33, zf_99, zf_100, zf_160, zf_200, zf_287, zf_288, zf_300, zf_1000, zf_1023, zf_1024, zf_1600, zf_3840, zf_25600, zf_36000, zf_1000000, zf_1000000000, zf_2000000000, zf_11560, za_1, za_2, za_4, za_5, za_6, za_7, za_8, za_9, za_10, za_11, za_12, za_14, za_15, za_22, za_23, za_25, za_26, za_27, za_28, za_29, za_30, za_31, za_32, za_33, za_34, za_35, za_41, za_42, za_43, za_44, za_45, za_46, za_47, za_48, za_49, za_61, za_62, za_63, za_64, za_65, za_71, za_72, za_73, za_74, za_75, za_76, za_77, za_78, za_79, za_80, za_81, za_82, za_83, za_84, za_85, za_86, za_87, za_88, za_89, za_90, za_91, za_92, za_93, za_94, za_95, za_96, za_97, za_98, za_99, za_100, za_101, za_102, za_103, za_104, za_105, za_106, za_107, za_108, eT, e99, hle]
      · rintro k s ⟨l1, l2, l3⟩
        refine ⟨s, m1, ?_, l2, i1.1, lv_iff hδ h0 l1 (fun b k h hb => ?_), T1, i1.2, hall⟩
        · show S_X8_goesChanged_213 N (L_X8_goesChanged_213 N k) m1 (nI s) (nI 288) = _
          unfold S_X8_goesChanged_213
          simp (disch := omega) only [zi_t, zi_f, bnd_t, zg_in, zx, nI_ltI, nI_leI, nI_eq, nI_add, pk_mul, pk_sub, mup_s, mup_c, mup_j, mrw_c, if_pos, if_neg, zm_1, zm_2, zm_3, zm_4, zm_5, zm_6, zm_7, zm_8, zm_9, zf_0, zf_1, zf_2, zf_3, zf_4, zf_5, zf_6, zf_7, zf_8, zf_9, zf_10, zf_14, zf_15, zf_16, zf_18, zf_19, zf_20, zf_24, zf_30, zf_31, zf_32, zf_33, zf_99, zf_100, zf_160, zf_200, zf_287, zf_288, zf_300, zf_1000, zf_1023, zf_1024, zf_1600, zf_3840, zf_25600, zf_36000, zf_1000000, zf_1000000000, zf_2000000000, zf_11560, za_1, za_2, za_4, za_5, za_6, za_7, za_8, za_9, za_10, za_11, za_12, za_14, za_15, za_22, za_23, za_25, za_26, za_27, za_28, za_29, za_30, za_31, za_32, za_33, za_34, za_35, za_41, za_42, za_43, za_44, za_45, za_46, za_47, za_48, za_49, za_61, za_62, za_63, za_64, za_65, za_71, za_72, za_73, za_74, za_75, za_76, za_77, za_78, za_79, za_80, za_81, za_82, za_83, za_84, za_85, za_86, za_87, za_88, za_89, za_90, za_91, za_92, za_93, za_94, za_95, za_96, za_97, za_98, za_99, za_100, za_101, za_102, za_103, za_104, za_105, za_106, za_107, za_108]
        · have z1 := hall b k h hb
          have z2 := hbd b k h
          have z3 := l3 b z2.2 (by omega) hb
          omega
