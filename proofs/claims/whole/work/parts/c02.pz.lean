/-! the model's rows of cells -/
def ORw (d : Nat) (m m' : Mem) : Prop := (∀ c, c ≠ 102 → m' c = m c) ∧ ∀ j, (j < 288 * d ∨ 288 * d + 288 ≤ j) → m' 102 j = m 102 j
theorem ORw.rf {d : Nat} {m : Mem} : ORw d m m := ⟨fun _ _ => rfl, fun _ _ => rfl⟩
theorem ORw.tr {d : Nat} {m m' m'' : Mem} (h : ORw d m m') (h2 : ORw d m' m'') : ORw d m m'' := ⟨fun c hc => by rw [h2.1 c hc, h.1 c hc], fun j hj => by rw [h2.2 j hj, h.2 j hj]⟩
theorem ORw.up {d a : Nat} {m m' : Mem} {x : Int32} (h : ORw d m m') (ha : a < 288) : ORw d m (mup m' 102 (288 * d + a) x) := ⟨fun c hc => by rw [mup_r hc, h.1 c hc], fun j hj => by rw [mup_j (by omega), h.2 j hj]⟩
def Bo (m : Mem) (d : Nat) : Prop := ∀ a, a < 288 → m 102 (288 * d + a) = nI 0 ∨ m 102 (288 * d + a) = nI 1
def At (m : Mem) (d a : Nat) : Prop := m 102 (288 * d + a) = nI 1
theorem Bo.up {d a e : Nat} {m : Mem} (h : Bo m d) : Bo (mup m 102 (288 * e + a) (nI 1)) d := by
  intro b hb
  rw [mup_if]
  split
  · exact Or.inr rfl
  · exact h b hb
theorem At.up {d a b : Nat} {m : Mem} : At (mup m 102 (288 * d + a) (nI 1)) d b ↔ b = a ∨ At m d b := by
  unfold At
  rw [mup_if]
  constructor
  · intro h
    split at h
    · left; omega
    · exact Or.inr h
  · rintro (h | h)
    · rw [if_pos (by omega)]
    · split
      · rfl
      · exact h
theorem At.no {d a : Nat} {m : Mem} (h : m 102 (288 * d + a) = nI 0) : ¬ At m d a := by
  intro h2
  have h2 : m 102 (288 * d + a) = nI 1 := h2
  rw [h] at h2
  exact absurd h2 (by decide)
def MLk (m : Mem) (i n : Nat) (f : Nat → Bool) (L : ArL) (w : List Nat) (δ : Nat → Nat) : Prop := MSt m i n f L w ∧ RT m δ
theorem MLk.cg {m m' : Mem} {i n : Nat} {f : Nat → Bool} {L : ArL} {w : List Nat} {δ : Nat → Nat} (h : MLk m i n f L w δ) (hf : ∀ k, 71 ≤ k → k < 100 → m' k = m k) (h2 : m' 70 2 = m 70 2) : MLk m' i n f L w δ :=
  ⟨h.1.cg (fun k a b => hf k a (by omega)) h2, fun a ha => by rw [hf 99 (by omega) (by omega)]; exact h.2 a ha⟩
theorem MLk.ow {m m' : Mem} {i n d : Nat} {f : Nat → Bool} {L : ArL} {w : List Nat} {δ : Nat → Nat} (h : MLk m i n f L w δ) (ho : ORw d m m') : MLk m' i n f L w δ := h.cg (fun k a b => ho.1 k (by omega)) (by rw [ho.1 70 (by omega)])
def GD (i n : Nat) (L : ArL) (w : List Nat) : Prop := i < 24 ∧ DOK n L ∧ L.length ≤ 160 ∧ n ≤ 32 ∧ w.length ≤ 8 ∧ (∀ x, x ∈ w → x < 8) ∧ 1 ≤ n
theorem eg_bhd {u : Bool} {L : ArL} {w : List Nat} {a c b x : Nat} (h : Eg (wU u) L w a c b x) : ∃ p q r, p ≤ w.length ∧ q ∈ L ∧ bhd u w q p = some r ∧ a = 32 * p + fr q.1 ∧ b = 32 * r + too q.1 ∧ x = syW (wU u) q ∧ c = q.2 := by
  obtain ⟨p, hp, hE⟩ := h
  rcases hE with ⟨q, hq, h1, ea, eb, ex⟩ | ⟨q, hq, h1, ea, eb, ex⟩ | ⟨s, hs, h1, _⟩
  · obtain ⟨h2, h3⟩ := st_bhd (w := w) (p := p) h1
    exact ⟨p, q, p, hp, hq, h2, ea, eb, ex, h3⟩
  · obtain ⟨h2, h3⟩ := rd_bhd h1
    exact ⟨p, q, p + 1, hp, hq, h2, ea, eb, ex, h3⟩
  · exact absurd (cSk_lt h1).2.2 (wU_lt u).1
theorem sy_of {u : Bool} {L : ArL} {w : List Nat} {δ : Nat → Nat} {q : Nat × Nat} {p r : Nat} (hq : q ∈ L) (hp : p ≤ w.length) (hr : bhd u w q p = some r) (hδ : δ (32 * r + too q.1) < 1000000000) : Sy (wU u) L w δ false (syW (wU u) q) (32 * p + fr q.1) (32 * r + too q.1) := ⟨q.2, (bhd_eg hq hp hr).2.1, hδ, fun h => by cases h⟩
theorem sy_bhd {u : Bool} {L : ArL} {w : List Nat} {δ : Nat → Nat} {a b x : Nat} (h : Sy (wU u) L w δ false x a b) : ∃ (j p : Nat) (q : Nat × Nat) (r : Nat), p ≤ w.length ∧ L[j]? = some q ∧ bhd u w q p = some r ∧ a = 32 * p + fr q.1 ∧ b = 32 * r + too q.1 ∧ syW (wU u) q = x ∧ δ (32 * r + too q.1) < 1000000000 := by
  obtain ⟨c, hE, h1, _⟩ := h
  obtain ⟨p, q, r, hp, hq, hr, ea, eb, ex, _⟩ := eg_bhd hE
  obtain ⟨j, hj⟩ := List.getElem?_of_mem hq
  exact ⟨j, p, q, r, hp, hj, hr, ea, eb, ex.symm, by rw [← eb]; exact h1⟩
theorem mo_goesOn {N i j n p d e : Nat} {u : Bool} {f : Nat → Bool} {m : Mem} {L : ArL} {w : List Nat} {δ : Nat → Nat} {q : Nat × Nat} (hG : GD i n L w) (hM : MLk m i n f L w δ) (hq : L[j]? = some q) (hj : j < 160) (hp : p ≤ w.length) (hd : d < 300) (he : e < 300) (hbd : Bo m d) (hbe : Bo m e) :
    ∃ b m', F_X8_goesOn N m (nI i) (bI u) (nI d) (nI e) (nI (160 * i + j)) (nI p) = some (bI b, m') ∧ ((b = true ∧ ∃ r, bhd u w q p = some r ∧ At m d (32 * p + fr q.1) ∧ δ (32 * r + too q.1) < 1000000000 ∧ ¬ At m e (32 * r + too q.1) ∧ m' = mup m 102 (288 * e + (32 * r + too q.1)) (nI 1)) ∨ (b = false ∧ m' = m ∧ ∀ r, bhd u w q p = some r → At m d (32 * p + fr q.1) → δ (32 * r + too q.1) < 1000000000 → At m e (32 * r + too q.1))) := by
  obtain ⟨hi, hok, hl, hn, hwl, hwx, _⟩ := hG
  obtain ⟨h, hT⟩ := hM
  have hqL := List.mem_of_getElem? hq
  have hqm := hok q hqL
  have hf1 := hqm.2.1
  have ht1 := hqm.2.2.1
  have hbh := mo_behind (N := N) (u := u) h hi hq hj hok hwl hwx hp
  obtain ⟨e75, e76, e77, e78, e79⟩ := h.1.2.2.2 j q hq
  have ed : 288 * d + 32 * p + fr q.1 = 288 * d + (32 * p + fr q.1) := by omega
  have s0 := gd_t (α := Int32 × Mem) (o := some (nI 0, m)) (show isb (nI 0) = true from rfl)
  unfold F_X8_goesOn B_X8_goesOn_40 B_X8_goesOn_104 B_X8_goesOn_105 B_X8_goesOn_138
  rcases hbd (32 * p + fr q.1) (by omega) with c0 | c1
  · refine ⟨false, m, ?_, Or.inr ⟨rfl, rfl, fun r _ hA _ => absurd hA (At.no c0)⟩⟩
    simp (disch := omega) only [zi_t, zi_f, bnd_t, zg_in, zx, nI_ltI, nI_leI, nI_eq, nI_add, pk_mul, pk_sub, mup_s, mup_c, mup_j, mrw_c, if_pos, if_neg, zm_1, zm_2, zm_3, zm_4, zm_5, zm_6, zm_7, zm_8, zm_9, zf_0, zf_1, zf_2, zf_3, zf_4, zf_5, zf_6, zf_7, zf_8, zf_9, zf_10, zf_14, zf_15, zf_16, zf_18, zf_19, zf_20, zf_24, zf_30, zf_31, zf_32, zf_33, zf_99, zf_100, zf_160, zf_200, zf_287, zf_288, zf_300, zf_1000, zf_1023, zf_1024, zf_1600, zf_3840, zf_25600, zf_36000, zf_1000000, zf_1000000000, zf_2000000000, zf_11560, za_1, za_2, za_4, za_5, za_6, za_7, za_8, za_9, za_10, za_11, za_12, za_14, za_15, za_22, za_23, za_25, za_26, za_27, za_28, za_29, za_30, za_31, za_32, za_33, za_34, za_35, za_41, za_42, za_43, za_44, za_45, za_46, za_47, za_48, za_49, za_61, za_62, za_63, za_64, za_65, za_71, za_72, za_73, za_74, za_75, za_76, za_77, za_78, za_79, za_80, za_81, za_82, za_83, za_84, za_85, za_86, za_87, za_88, za_89, za_90, za_91, za_92, za_93, za_94, za_95, za_96, za_97, za_98, za_99, za_100, za_101, za_102, za_103, za_104, za_105, za_106, za_107, za_108, e75, ed, c0, s0, bI_f]
  · cases hb : bhd u w q p with
    | none =>
      rw [hb] at hbh
      have hbh : F_X8_behind N m (nI (160 * i + j)) (nI p) (bI u) = some (nM, m) := hbh
      refine ⟨false, m, ?_, Or.inr ⟨rfl, rfl, fun r hr => by cases hr⟩⟩
      simp (disch := omega) only [zi_t, zi_f, bnd_t, zg_in, zx, nI_ltI, nI_leI, nI_eq, nI_add, pk_mul, pk_sub, mup_s, mup_c, mup_j, mrw_c, if_pos, if_neg, zm_1, zm_2, zm_3, zm_4, zm_5, zm_6, zm_7, zm_8, zm_9, zf_0, zf_1, zf_2, zf_3, zf_4, zf_5, zf_6, zf_7, zf_8, zf_9, zf_10, zf_14, zf_15, zf_16, zf_18, zf_19, zf_20, zf_24, zf_30, zf_31, zf_32, zf_33, zf_99, zf_100, zf_160, zf_200, zf_287, zf_288, zf_300, zf_1000, zf_1023, zf_1024, zf_1600, zf_3840, zf_25600, zf_36000, zf_1000000, zf_1000000000, zf_2000000000, zf_11560, za_1, za_2, za_4, za_5, za_6, za_7, za_8, za_9, za_10, za_11, za_12, za_14, za_15, za_22, za_23, za_25, za_26, za_27, za_28, za_29, za_30, za_31, za_32, za_33, za_34, za_35, za_41, za_42, za_43, za_44, za_45, za_46, za_47, za_48, za_49, za_61, za_62, za_63, za_64, za_65, za_71, za_72, za_73, za_74, za_75, za_76, za_77, za_78, za_79, za_80, za_81, za_82, za_83, za_84, za_85, za_86, za_87, za_88, za_89, za_90, za_91, za_92, za_93, za_94, za_95, za_96, za_97, za_98, za_99, za_100, za_101, za_102, za_103, za_104, za_105, za_106, za_107, za_108, e75, ed, c1]
      rw [cal_t hbh]
      simp (disch := omega) only [zi_t, zi_f, bnd_t, zg_in, zx, nI_ltI, nI_leI, nI_eq, nI_add, pk_mul, pk_sub, mup_s, mup_c, mup_j, mrw_c, if_pos, if_neg, zm_1, zm_2, zm_3, zm_4, zm_5, zm_6, zm_7, zm_8, zm_9, zf_0, zf_1, zf_2, zf_3, zf_4, zf_5, zf_6, zf_7, zf_8, zf_9, zf_10, zf_14, zf_15, zf_16, zf_18, zf_19, zf_20, zf_24, zf_30, zf_31, zf_32, zf_33, zf_99, zf_100, zf_160, zf_200, zf_287, zf_288, zf_300, zf_1000, zf_1023, zf_1024, zf_1600, zf_3840, zf_25600, zf_36000, zf_1000000, zf_1000000000, zf_2000000000, zf_11560, za_1, za_2, za_4, za_5, za_6, za_7, za_8, za_9, za_10, za_11, za_12, za_14, za_15, za_22, za_23, za_25, za_26, za_27, za_28, za_29, za_30, za_31, za_32, za_33, za_34, za_35, za_41, za_42, za_43, za_44, za_45, za_46, za_47, za_48, za_49, za_61, za_62, za_63, za_64, za_65, za_71, za_72, za_73, za_74, za_75, za_76, za_77, za_78, za_79, za_80, za_81, za_82, za_83, za_84, za_85, za_86, za_87, za_88, za_89, za_90, za_91, za_92, za_93, za_94, za_95, za_96, za_97, za_98, za_99, za_100, za_101, za_102, za_103, za_104, za_105, za_106, za_107, za_108, s0, bI_f]
    | some r =>
      rw [hb] at hbh
      have hbh : F_X8_behind N m (nI (160 * i + j)) (nI p) (bI u) = some (nI r, m) := hbh
      obtain ⟨hr, _, _⟩ := bhd_eg hqL hp hb
      have e99 := hT (32 * r + too q.1) (by omega)
      have ee : 288 * e + 32 * r + too q.1 = 288 * e + (32 * r + too q.1) := by omega
      rcases mF_0 (δ := δ) (a := 32 * r + too q.1) with ⟨x1, x2⟩ | ⟨x1, x2⟩
      · rw [x1] at e99
        refine ⟨false, m, ?_, Or.inr ⟨rfl, rfl, fun r' hr' _ hδ => ?_⟩⟩
        · simp (disch := omega) only [zi_t, zi_f, bnd_t, zg_in, zx, nI_ltI, nI_leI, nI_eq, nI_add, pk_mul, pk_sub, mup_s, mup_c, mup_j, mrw_c, if_pos, if_neg, zm_1, zm_2, zm_3, zm_4, zm_5, zm_6, zm_7, zm_8, zm_9, zf_0, zf_1, zf_2, zf_3, zf_4, zf_5, zf_6, zf_7, zf_8, zf_9, zf_10, zf_14, zf_15, zf_16, zf_18, zf_19, zf_20, zf_24, zf_30, zf_31, zf_32, zf_33, zf_99, zf_100, zf_160, zf_200, zf_287, zf_288, zf_300, zf_1000, zf_1023, zf_1024, zf_1600, zf_3840, zf_25600, zf_36000, zf_1000000, zf_1000000000, zf_2000000000, zf_11560, za_1, za_2, za_4, za_5, za_6, za_7, za_8, za_9, za_10, za_11, za_12, za_14, za_15, za_22, za_23, za_25, za_26, za_27, za_28, za_29, za_30, za_31, za_32, za_33, za_34, za_35, za_41, za_42, za_43, za_44, za_45, za_46, za_47, za_48, za_49, za_61, za_62, za_63, za_64, za_65, za_71, za_72, za_73, za_74, za_75, za_76, za_77, za_78, za_79, za_80, za_81, za_82, za_83, za_84, za_85, za_86, za_87, za_88, za_89, za_90, za_91, za_92, za_93, za_94, za_95, za_96, za_97, za_98, za_99, za_100, za_101, za_102, za_103, za_104, za_105, za_106, za_107, za_108, e75, ed, c1]
          rw [cal_t hbh]
          simp (disch := omega) only [zi_t, zi_f, bnd_t, zg_in, zx, nI_ltI, nI_leI, nI_eq, nI_add, pk_mul, pk_sub, mup_s, mup_c, mup_j, mrw_c, if_pos, if_neg, zm_1, zm_2, zm_3, zm_4, zm_5, zm_6, zm_7, zm_8, zm_9, zf_0, zf_1, zf_2, zf_3, zf_4, zf_5, zf_6, zf_7, zf_8, zf_9, zf_10, zf_14, zf_15, zf_16, zf_18, zf_19, zf_20, zf_24, zf_30, zf_31, zf_32, zf_33, zf_99, zf_100, zf_160, zf_200, zf_287, zf_288, zf_300, zf_1000, zf_1023, zf_1024, zf_1600, zf_3840, zf_25600, zf_36000, zf_1000000, zf_1000000000, zf_2000000000, zf_11560, za_1, za_2, za_4, za_5, za_6, za_7, za_8, za_9, za_10, za_11, za_12, za_14, za_15, za_22, za_23, za_25, za_26, za_27, za_28, za_29, za_30, za_31, za_32, za_33, za_34, za_35, za_41, za_42, za_43, za_44, za_45, za_46, za_47, za_48, za_49, za_61, za_62, za_63, za_64, za_65, za_71, za_72, za_73, za_74, za_75, za_76, za_77, za_78, za_79, za_80, za_81, za_82, za_83, za_84, za_85, za_86, za_87, za_88, za_89, za_90, za_91, za_92, za_93, za_94, za_95, za_96, za_97, za_98, za_99, za_100, za_101, za_102, za_103, za_104, za_105, za_106, za_107, za_108, e79, e99, s0, bI_f]
        · have e3 := Option.some.inj hr'
          subst e3
          exact absurd hδ x2
      · rw [x1] at e99
        rcases hbe (32 * r + too q.1) (by omega) with c2 | c2
        · refine ⟨true, _, ?_, Or.inl ⟨rfl, r, rfl, c1, x2, At.no c2, rfl⟩⟩
          simp (disch := omega) only [zi_t, zi_f, bnd_t, zg_in, zx, nI_ltI, nI_leI, nI_eq, nI_add, pk_mul, pk_sub, mup_s, mup_c, mup_j, mrw_c, if_pos, if_neg, zm_1, zm_2, zm_3, zm_4, zm_5, zm_6, zm_7, zm_8, zm_9, zf_0, zf_1, zf_2, zf_3, zf_4, zf_5, zf_6, zf_7, zf_8, zf_9, zf_10, zf_14, zf_15, zf_16, zf_18, zf_19, zf_20, zf_24, zf_30, zf_31, zf_32, zf_33, zf_99, zf_100, zf_160, zf_200, zf_287, zf_288, zf_300, zf_1000, zf_1023, zf_1024, zf_1600, zf_3840, zf_25600, zf_36000, zf_1000000, zf_1000000000, zf_2000000000, zf_11560, za_1, za_2, za_4, za_5, za_6, za_7, za_8, za_9, za_10, za_11, za_12, za_14, za_15, za_22, za_23, za_25, za_26, za_27, za_28, za_29, za_30, za_31, za_32, za_33, za_34, za_35, za_41, za_42, za_43, za_44, za_45, za_46, za_47, za_48, za_49, za_61, za_62, za_63, za_64, za_65, za_71, za_72, za_73, za_74, za_75, za_76, za_77, za_78, za_79, za_80, za_81, za_82, za_83, za_84, za_85, za_86, za_87, za_88, za_89, za_90, za_91, za_92, za_93, za_94, za_95, za_96, za_97, za_98, za_99, za_100, za_101, za_102, za_103, za_104, za_105, za_106, za_107, za_108, e75, ed, c1]
          rw [cal_t hbh]
          simp (disch := omega) only [zi_t, zi_f, bnd_t, zg_in, zx, nI_ltI, nI_leI, nI_eq, nI_add, pk_mul, pk_sub, mup_s, mup_c, mup_j, mrw_c, if_pos, if_neg, zm_1, zm_2, zm_3, zm_4, zm_5, zm_6, zm_7, zm_8, zm_9, zf_0, zf_1, zf_2, zf_3, zf_4, zf_5, zf_6, zf_7, zf_8, zf_9, zf_10, zf_14, zf_15, zf_16, zf_18, zf_19, zf_20, zf_24, zf_30, zf_31, zf_32, zf_33, zf_99, zf_100, zf_160, zf_200, zf_287, zf_288, zf_300, zf_1000, zf_1023, zf_1024, zf_1600, zf_3840, zf_25600, zf_36000, zf_1000000, zf_1000000000, zf_2000000000, zf_11560, za_1, za_2, za_4, za_5, za_6, za_7, za_8, za_9, za_10, za_11, za_12, za_14, za_15, za_22, za_23, za_25, za_26, za_27, za_28, za_29, za_30, za_31, za_32, za_33, za_34, za_35, za_41, za_42, za_43, za_44, za_45, za_46, za_47, za_48, za_49, za_61, za_62, za_63, za_64, za_65, za_71, za_72, za_73, za_74, za_75, za_76, za_77, za_78, za_79, za_80, za_81, za_82, za_83, za_84, za_85, za_86, za_87, za_88, za_89, za_90, za_91, za_92, za_93, za_94, za_95, za_96, za_97, za_98, za_99, za_100, za_101, za_102, za_103, za_104, za_105, za_106, za_107, za_108, e79, e99, ee, c2, bI_t]
          rfl
        · refine ⟨false, m, ?_, Or.inr ⟨rfl, rfl, fun r' hr' _ hδ => ?_⟩⟩
          · simp (disch := omega) only [zi_t, zi_f, bnd_t, zg_in, zx, nI_ltI, nI_leI, nI_eq, nI_add, pk_mul, pk_sub, mup_s, mup_c, mup_j, mrw_c, if_pos, if_neg, zm_1, zm_2, zm_3, zm_4, zm_5, zm_6, zm_7, zm_8, zm_9, zf_0, zf_1, zf_2, zf_3, zf_4, zf_5, zf_6, zf_7, zf_8, zf_9, zf_10, zf_14, zf_15, zf_16, zf_18, zf_19, zf_20, zf_24, zf_30, zf_31, zf_32, zf_33, zf_99, zf_100, zf_160, zf_200, zf_287, zf_288, zf_300, zf_1000, zf_1023, zf_1024, zf_1600, zf_3840, zf_25600, zf_36000, zf_1000000, zf_1000000000, zf_2000000000, zf_11560, za_1, za_2, za_4, za_5, za_6, za_7, za_8, za_9, za_10, za_11, za_12, za_14, za_15, za_22, za_23, za_25, za_26, za_27, za_28, za_29, za_30, za_31, za_32, za_33, za_34, za_35, za_41, za_42, za_43, za_44, za_45, za_46, za_47, za_48, za_49, za_61, za_62, za_63, za_64, za_65, za_71, za_72, za_73, za_74, za_75, za_76, za_77, za_78, za_79, za_80, za_81, za_82, za_83, za_84, za_85, za_86, za_87, za_88, za_89, za_90, za_91, za_92, za_93, za_94, za_95, za_96, za_97, za_98, za_99, za_100, za_101, za_102, za_103, za_104, za_105, za_106, za_107, za_108, e75, ed, c1]
            rw [cal_t hbh]
            simp (disch := omega) only [zi_t, zi_f, bnd_t, zg_in, zx, nI_ltI, nI_leI, nI_eq, nI_add, pk_mul, pk_sub, mup_s, mup_c, mup_j, mrw_c, if_pos, if_neg, zm_1, zm_2, zm_3, zm_4, zm_5, zm_6, zm_7, zm_8, zm_9, zf_0, zf_1, zf_2, zf_3, zf_4, zf_5, zf_6, zf_7, zf_8, zf_9, zf_10, zf_14, zf_15, zf_16, zf_18, zf_19, zf_20, zf_24, zf_30, zf_31, zf_32, zf_33, zf_99, zf_100, zf_160, zf_200, zf_287, zf_288, zf_300, zf_1000, zf_1023, zf_1024, zf_1600, zf_3840, zf_25600, zf_36000, zf_1000000, zf_1000000000, zf_2000000000, zf_11560, za_1, za_2, za_4, za_5, za_6, za_7, za_8, za_9, za_10, za_11, za_12, za_14, za_15, za_22, za_23, za_25, za_26, za_27, za_28, za_29, za_30, za_31, za_32, za_33, za_34, za_35, za_41, za_42, za_43, za_44, za_45, za_46, za_47, za_48, za_49, za_61, za_62, za_63, za_64, za_65, za_71, za_72, za_73, za_74, za_75, za_76, za_77, za_78, za_79, za_80, za_81, za_82, za_83, za_84, za_85, za_86, za_87, za_88, za_89, za_90, za_91, za_92, za_93, za_94, za_95, za_96, za_97, za_98, za_99, za_100, za_101, za_102, za_103, za_104, za_105, za_106, za_107, za_108, e79, e99, ee, c2, s0, bI_f]
          · have e3 := Option.some.inj hr'
            subst e3
            exact c2
