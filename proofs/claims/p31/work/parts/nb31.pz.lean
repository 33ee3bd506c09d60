theorem cell_at {p s : Nat} (hp : p < 1000) (hs : s < 1000) : P_X4_cellAt (nI p) (nI s) = nI (32 * p + s) := by
  unfold P_X4_cellAt
  simp (disch := omega) only [zi_t, zi_f, bnd_t, zg_in, zx, nI_ltI, nI_leI, nI_eq, nI_add, pk_mul, pk_sub, mup_s, mup_c, mup_j, mrw_c, if_pos, if_neg, zm_1, zm_2, zm_3, zm_4, zm_5, zm_6, zm_7, zm_8, zm_9, zf_0, zf_1, zf_2, zf_3, zf_4, zf_5, zf_6, zf_7, zf_8, zf_9, zf_10, zf_14, zf_15, zf_16, zf_18, zf_19, zf_20, zf_24, zf_30, zf_31, zf_32, zf_33, zf_99, zf_100, zf_160, zf_200, zf_287, zf_288, zf_300, zf_1000, zf_1023, zf_1024, zf_1600, zf_3840, zf_25600, zf_36000, zf_1000000, zf_1000000000, zf_2000000000, zf_11560, za_1, za_2, za_4, za_5, za_6, za_7, za_8, za_9, za_10, za_11, za_12, za_14, za_15, za_22, za_23, za_25, za_26, za_27, za_28, za_29, za_30, za_31, za_32, za_33, za_34, za_35, za_41, za_42, za_43, za_44, za_45, za_46, za_47, za_48, za_49, za_61, za_62, za_63, za_64, za_65, za_70]
  rw [show p * 32 + s = 32 * p + s by omega]
def TD (m : Mem) (n : Nat) (w : List Nat) (lo : Nat) (V : Nat → Nat) : Prop := ∀ p s, lo ≤ p → p ≤ w.length → s < n → m 46 (32 * p + s) = nI (V (32 * p + s)) ∧ V (32 * p + s) ≤ 1000000000
def PI (m : Mem) (n : Nat) (f : Nat → Bool) (w : List Nat) (δ : Nat → Nat) (p : Nat) (V : Nat → Nat) : Prop := TD m n w p V ∧ (∀ p' s, p < p' → p' ≤ w.length → s < n → V (32 * p' + s) = δ (32 * p' + s)) ∧ ∀ s, s < n → δ (32 * p + s) ≤ V (32 * p + s) ∧ (En n f w (32 * p + s) → V (32 * p + s) = 0)
theorem pl_less {N n p s way b : Nat} {f : Nat → Bool} {L : ArL} {w : List Nat} {δ V : Nat → Nat} {m : Mem} {o : Option Nat} {x : Int32} (hwl : w.length ≤ 8) (hn : n ≤ 32) (hδ : IsD (eG way L w) (En n f w) δ) (hP : PI m n f w δ p V) (hp : p ≤ w.length) (hs : s < n) (ho : ∀ c, o = some c → eG way L w (32 * p + s) c b ∧ c ≤ 1000000 ∧ x = nI b ∧ ∃ p' s', p ≤ p' ∧ p' ≤ p + 1 ∧ p' ≤ w.length ∧ s' < n ∧ b = 32 * p' + s') :
    ∃ m' V' ch, F_X4_lessen N m (nI (32 * p + s)) (cI o) x = some (bI ch, m') ∧ PI m' n f w δ p V' ∧ Off 46 47 m m' ∧ (∀ x, V' x ≤ V x) ∧ (∀ c, o = some c → V b < 1000000000 → V' (32 * p + s) ≤ V b + c) ∧ (ch = false → V' = V) := by
  cases o with
  | none => exact ⟨m, V, false, less_no, hP, Off.rf, fun _ => Nat.le_refl _, (by intro c h; cases h), fun _ => rfl⟩
  | some c =>
    obtain ⟨hE, hc, rfl, p', s', h1, h2, h3, h4, rfl⟩ := ho c rfl
    obtain ⟨ea, la⟩ := hP.1 p s (Nat.le_refl _) hp hs
    obtain ⟨eb, lb⟩ := hP.1 p' s' h1 h3 h4
    have hless := less_so (N := N) (m := m) (by omega : 32 * p + s < 288) (by omega : 32 * p' + s' < 288) ea eb la lb hc
    have hδb : δ (32 * p' + s') ≤ V (32 * p' + s') := by
      by_cases e : p' = p
      · rw [e]; exact (hP.2.2 s' h4).1
      · rw [hP.2.1 p' s' (by omega) h3 h4]; exact Nat.le_refl _
    by_cases cc : V (32 * p' + s') < 1000000000 ∧ V (32 * p' + s') + c < V (32 * p + s)
    · rw [if_pos cc] at hless
      have hne : ∀ q t, p < q → q ≤ w.length → t < n → ¬ 32 * q + t = 32 * p + s := fun q t _ _ _ => by omega
      refine ⟨_, fun y => if y = 32 * p + s then V (32 * p' + s') + c else V y, true, hless, ⟨fun q t hq1 hq2 ht => ?_, fun q t hq1 hq2 ht => ?_, fun t ht => ?_⟩, Off.rf.up (by omega) (by omega), fun y => ?_, fun c' hc' hlt => ?_, fun h => by cases h⟩
      · rw [mup_if]
        show (if 32 * q + t = 32 * p + s then _ else _) = nI (if 32 * q + t = 32 * p + s then _ else V (32 * q + t)) ∧ (if 32 * q + t = 32 * p + s then V (32 * p' + s') + c else V (32 * q + t)) ≤ 1000000000
        by_cases e : 32 * q + t = 32 * p + s
        · rw [if_pos e, if_pos e]; exact ⟨rfl, by omega⟩
        · rw [if_neg e, if_neg e]; exact hP.1 q t hq1 hq2 ht
      · show (if 32 * q + t = 32 * p + s then V (32 * p' + s') + c else V (32 * q + t)) = δ (32 * q + t)
        rw [if_neg (hne q t hq1 hq2 ht)]
        exact hP.2.1 q t hq1 hq2 ht
      · show δ (32 * p + t) ≤ (if 32 * p + t = 32 * p + s then V (32 * p' + s') + c else V (32 * p + t)) ∧ (En n f w (32 * p + t) → (if 32 * p + t = 32 * p + s then V (32 * p' + s') + c else V (32 * p + t)) = 0)
        by_cases e : 32 * p + t = 32 * p + s
        · rw [if_pos e, e]
          have := (hδ.st hE (by omega)).1
          refine ⟨by omega, fun he => ?_⟩
          have := (hP.2.2 s hs).2 he
          omega
        · rw [if_neg e]; exact hP.2.2 t ht
      · show (if y = 32 * p + s then V (32 * p' + s') + c else V y) ≤ V y
        split
        · rename_i e; rw [e]; omega
        · exact Nat.le_refl _
      · have := Option.some.inj hc'
        show (if 32 * p + s = 32 * p + s then V (32 * p' + s') + c else V (32 * p + s)) ≤ _
        rw [if_pos rfl]; omega
    · rw [if_neg cc] at hless
      exact ⟨m, V, false, hless, hP, Off.rf, fun _ => Nat.le_refl _, fun c' hc' hlt => by have := Option.some.inj hc'; omega, fun _ => rfl⟩
def RA (n way : Nat) (L : ArL) (w : List Nat) (δ : Nat → Nat) (p k : Nat) (V : Nat → Nat) : Prop := ∀ j q c, j < k → L[j]? = some q → cRd way w p q = some c → δ (32 * (p + 1) + too q.1) < 1000000000 → V (32 * p + fr q.1) ≤ δ (32 * (p + 1) + too q.1) + c
def RS (n way : Nat) (w : List Nat) (δ : Nat → Nat) (p k : Nat) (V : Nat → Nat) : Prop := ∀ s c, s < k → s < n → cSk way w p = some c → δ (32 * (p + 1) + s) < 1000000000 → V (32 * p + s) ≤ δ (32 * (p + 1) + s) + c
theorem cl_mReading {N a n p way : Nat} {e : Int32} {f : Nat → Bool} {L : ArL} {w : List Nat} {δ V : Nat → Nat} {m : Mem} (hN : 40000 < N) (ha : 200 ≤ a) (ha2 : a < 300) (hk : (knd a == 3) = true) (h : SC m a way n e L w) (hok : DOK n L) (hl : L.length ≤ 160) (hway : way < 3) (hwl : w.length ≤ 8) (hwx : ∀ x, x ∈ w → x < 8) (hn : n ≤ 32) (hδ : IsD (eG way L w) (En n f w) δ) (hp : p ≤ w.length) (hP : PI m n f w δ p V) :
    ∃ m' V', F_X4_measureReading N m (nI p) = some m' ∧ Off 46 47 m m' ∧ PI m' n f w δ p V' ∧ RA n way L w δ p L.length V' ∧ RS n way w δ p n V' := by
  unfold F_X4_measureReading
  refine loopF (σ := Mem × (Nat → Nat)) (fun g x i => L_X4_measureReading_2 N g x.1 (nI p) (nI i)) L.length (fun i x => Off 46 47 m x.1 ∧ PI x.1 n f w δ p x.2 ∧ RA n way L w δ p i x.2) (fun o => ∃ m' V', o = some m' ∧ Off 46 47 m m' ∧ PI m' n f w δ p V' ∧ RA n way L w δ p L.length V' ∧ RS n way w δ p n V') ?_ ?_ N 0 (m, V) (Nat.zero_le _) ⟨Off.rf, hP, fun j q c hj => absurd hj (Nat.not_lt_zero _)⟩ (by omega)
  · rintro g i ⟨m1, V1⟩ hi ⟨i1, i2, i3⟩
    have i1 : Off 46 47 m m1 := i1
    have i2 : PI m1 n f w δ p V1 := i2
    have i3 : RA n way L w δ p i V1 := i3
    have h1 : SC m1 a way n e L w := h.cg ha (fun k hk => i1 k (by omega)) (by rw [i1 40 (by omega)]) (by rw [i1 40 (by omega)]) (by rw [i1 40 (by omega)])
    obtain ⟨q, hq⟩ : ∃ q, L[i]? = some q := ⟨_, List.getElem?_eq_getElem hi⟩
    have hqm := hok q (List.mem_of_getElem? hq)
    have hf1 := hqm.2.1
    have ht1 := hqm.2.2.1
    obtain ⟨e42, e43, e44, e45⟩ := h1.2.2.2.2.2 i q hq
    have e402 := h1.2.1
    have eL := h1.1.2.2.1
    have hrd := cl_read (N := N) ha ha2 hk h1 hok hl hway hwl hwx hp hq
    obtain ⟨m2, V2, ch, g1, g2, g3, g4, g5, g6⟩ := pl_less (N := N) (p := p) (s := fr q.1) (b := 32 * (p + 1) + too q.1) (o := cRd way w p q) (x := nI (32 * (p + 1) + too q.1)) hwl hn hδ i2 hp hf1 (fun c hc => by
      have := cRd_lt hc
      exact ⟨⟨syW way q, p, hp, Or.inr (Or.inl ⟨q, List.mem_of_getElem? hq, hc, rfl, rfl, rfl⟩)⟩, cRd_le hqm hc, rfl, p + 1, too q.1, by omega, by omega, by omega, ht1, rfl⟩)
    refine Or.inl ⟨(m2, V2), ⟨i1.tr g3, g2, fun j r c hj hr hc hlt => ?_⟩, ?_⟩
    · by_cases ej : j = i
      · rw [ej, hq] at hr
        have := Option.some.inj hr
        subst this
        have hc' := cRd_lt hc
        have hv := i2.2.1 (p + 1) (too q.1) (by omega) (by omega) ht1
        have := g5 c hc (by omega)
        rw [hv] at this
        exact this
      · have := i3 j r c (by omega) hr hc hlt
        have := g4 (32 * p + fr r.1)
        show V2 (32 * p + fr r.1) ≤ _
        omega
    · show S_X4_measureReading_2 N (L_X4_measureReading_2 N g) m1 (nI p) (nI i) = _
      unfold S_X4_measureReading_2
      simp (disch := omega) only [zi_t, zi_f, bnd_t, zg_in, zx, nI_ltI, nI_leI, nI_eq, nI_add, pk_mul, pk_sub, mup_s, mup_c, mup_j, mrw_c, if_pos, if_neg, zm_1, zm_2, zm_3, zm_4, zm_5, zm_6, zm_7, zm_8, zm_9, zf_0, zf_1, zf_2, zf_3, zf_4, zf_5, zf_6, zf_7, zf_8, zf_9, zf_10, zf_14, zf_15, zf_16, zf_18, zf_19, zf_20, zf_24, zf_30, zf_31, zf_32, zf_33, zf_99, zf_100, zf_160, zf_200, zf_287, zf_288, zf_300, zf_1000, zf_1023, zf_1024, zf_1600, zf_3840, zf_25600, zf_36000, zf_1000000, zf_1000000000, zf_2000000000, zf_11560, za_1, za_2, za_4, za_5, za_6, za_7, za_8, za_9, za_10, za_11, za_12, za_14, za_15, za_22, za_23, za_25, za_26, za_27, za_28, za_29, za_30, za_31, za_32, za_33, za_34, za_35, za_41, za_42, za_43, za_44, za_45, za_46, za_47, za_48, za_49, za_61, za_62, za_63, za_64, za_65, za_70, e402, gd_t hk, eL]
      rw [cal_t hrd]
      simp (disch := omega) only [zi_t, zi_f, bnd_t, zg_in, zx, nI_ltI, nI_leI, nI_eq, nI_add, pk_mul, pk_sub, mup_s, mup_c, mup_j, mrw_c, if_pos, if_neg, zm_1, zm_2, zm_3, zm_4, zm_5, zm_6, zm_7, zm_8, zm_9, zf_0, zf_1, zf_2, zf_3, zf_4, zf_5, zf_6, zf_7, zf_8, zf_9, zf_10, zf_14, zf_15, zf_16, zf_18, zf_19, zf_20, zf_24, zf_30, zf_31, zf_32, zf_33, zf_99, zf_100, zf_160, zf_200, zf_287, zf_288, zf_300, zf_1000, zf_1023, zf_1024, zf_1600, zf_3840, zf_25600, zf_36000, zf_1000000, zf_1000000000, zf_2000000000, zf_11560, za_1, za_2, za_4, za_5, za_6, za_7, za_8, za_9, za_10, za_11, za_12, za_14, za_15, za_22, za_23, za_25, za_26, za_27, za_28, za_29, za_30, za_31, za_32, za_33, za_34, za_35, za_41, za_42, za_43, za_44, za_45, za_46, za_47, za_48, za_49, za_61, za_62, za_63, za_64, za_65, za_70, e42, e45, cell_at]
      rw [cal_t g1]
  · rintro g ⟨m1, V1⟩ ⟨i1, i2, i3⟩
    have i1 : Off 46 47 m m1 := i1
    have i2 : PI m1 n f w δ p V1 := i2
    have i3 : RA n way L w δ p L.length V1 := i3
    have h1 : SC m1 a way n e L w := h.cg ha (fun k hk => i1 k (by omega)) (by rw [i1 40 (by omega)]) (by rw [i1 40 (by omega)]) (by rw [i1 40 (by omega)])
    have e402 := h1.2.1
    have eL := h1.1.2.2.1
    show ∃ m' V', S_X4_measureReading_2 N (L_X4_measureReading_2 N g) m1 (nI p) (nI L.length) = _ ∧ _
    unfold S_X4_measureReading_2
    simp (disch := omega) only [zi_t, zi_f, bnd_t, zg_in, zx, nI_ltI, nI_leI, nI_eq, nI_add, pk_mul, pk_sub, mup_s, mup_c, mup_j, mrw_c, if_pos, if_neg, zm_1, zm_2, zm_3, zm_4, zm_5, zm_6, zm_7, zm_8, zm_9, zf_0, zf_1, zf_2, zf_3, zf_4, zf_5, zf_6, zf_7, zf_8, zf_9, zf_10, zf_14, zf_15, zf_16, zf_18, zf_19, zf_20, zf_24, zf_30, zf_31, zf_32, zf_33, zf_99, zf_100, zf_160, zf_200, zf_287, zf_288, zf_300, zf_1000, zf_1023, zf_1024, zf_1600, zf_3840, zf_25600, zf_36000, zf_1000000, zf_1000000000, zf_2000000000, zf_11560, za_1, za_2, za_4, za_5, za_6, za_7, za_8, za_9, za_10, za_11, za_12, za_14, za_15, za_22, za_23, za_25, za_26, za_27, za_28, za_29, za_30, za_31, za_32, za_33, za_34, za_35, za_41, za_42, za_43, za_44, za_45, za_46, za_47, za_48, za_49, za_61, za_62, za_63, za_64, za_65, za_70, e402, gd_t hk, eL]
    refine loopF (σ := Mem × (Nat → Nat)) (fun g x i => L_X4_measureReading_57 N g x.1 (nI p) (nI i)) n (fun i x => Off 46 47 m x.1 ∧ PI x.1 n f w δ p x.2 ∧ RA n way L w δ p L.length x.2 ∧ RS n way w δ p i x.2) (fun o => ∃ m' V', o = some m' ∧ Off 46 47 m m' ∧ PI m' n f w δ p V' ∧ RA n way L w δ p L.length V' ∧ RS n way w δ p n V') ?_ ?_ N 0 (m1, V1) (Nat.zero_le _) ⟨i1, i2, i3, fun s c hs => absurd hs (Nat.not_lt_zero _)⟩ (by omega)
    · rintro g s ⟨m2, V2⟩ hs ⟨j1, j2, j3, j4⟩
      have j1 : Off 46 47 m m2 := j1
      have j2 : PI m2 n f w δ p V2 := j2
      have j3 : RA n way L w δ p L.length V2 := j3
      have j4 : RS n way w δ p s V2 := j4
      have h2 : SC m2 a way n e L w := h.cg ha (fun k hk => j1 k (by omega)) (by rw [j1 40 (by omega)]) (by rw [j1 40 (by omega)]) (by rw [j1 40 (by omega)])
      have e402' := h2.2.1
      have en := h2.1.1
      have hsk := cl_skip (N := N) h2 hway hwl hp
      obtain ⟨m3, V3, ch, g1, g2, g3, g4, g5, g6⟩ := pl_less (N := N) (p := p) (s := s) (b := 32 * (p + 1) + s) (o := cSk way w p) (x := nI (32 * (p + 1) + s)) hwl hn hδ j2 hp hs (fun c hc => by
        have := cSk_lt hc
        exact ⟨⟨8, p, hp, Or.inr (Or.inr ⟨s, by omega, hc, rfl, rfl, rfl⟩)⟩, by omega, rfl, p + 1, s, by omega, by omega, by omega, hs, rfl⟩)
      refine Or.inl ⟨(m3, V3), ⟨j1.tr g3, g2, fun j r c hj hr hc hlt => ?_, fun t c ht htn hc hlt => ?_⟩, ?_⟩
      · have := j3 j r c hj hr hc hlt
        have := g4 (32 * p + fr r.1)
        show V3 (32 * p + fr r.1) ≤ _
        omega
      · by_cases et : t = s
        · subst et
          have hc' := cSk_lt hc
          have hv := j2.2.1 (p + 1) t (by omega) (by omega) hs
          have := g5 c hc (by omega)
          rw [hv] at this
          exact this
        · have := j4 t c (by omega) htn hc hlt
          have := g4 (32 * p + t)
          show V3 (32 * p + t) ≤ _
          omega
      · show S_X4_measureReading_57 N (L_X4_measureReading_57 N g) m2 (nI p) (nI s) = _
        unfold S_X4_measureReading_57
        simp (disch := omega) only [zi_t, zi_f, bnd_t, zg_in, zx, nI_ltI, nI_leI, nI_eq, nI_add, pk_mul, pk_sub, mup_s, mup_c, mup_j, mrw_c, if_pos, if_neg, zm_1, zm_2, zm_3, zm_4, zm_5, zm_6, zm_7, zm_8, zm_9, zf_0, zf_1, zf_2, zf_3, zf_4, zf_5, zf_6, zf_7, zf_8, zf_9, zf_10, zf_14, zf_15, zf_16, zf_18, zf_19, zf_20, zf_24, zf_30, zf_31, zf_32, zf_33, zf_99, zf_100, zf_160, zf_200, zf_287, zf_288, zf_300, zf_1000, zf_1023, zf_1024, zf_1600, zf_3840, zf_25600, zf_36000, zf_1000000, zf_1000000000, zf_2000000000, zf_11560, za_1, za_2, za_4, za_5, za_6, za_7, za_8, za_9, za_10, za_11, za_12, za_14, za_15, za_22, za_23, za_25, za_26, za_27, za_28, za_29, za_30, za_31, za_32, za_33, za_34, za_35, za_41, za_42, za_43, za_44, za_45, za_46, za_47, za_48, za_49, za_61, za_62, za_63, za_64, za_65, za_70, e402', gd_t hk, en]
        rw [cal_t hsk]
        simp (disch := omega) only [zi_t, zi_f, bnd_t, zg_in, zx, nI_ltI, nI_leI, nI_eq, nI_add, pk_mul, pk_sub, mup_s, mup_c, mup_j, mrw_c, if_pos, if_neg, zm_1, zm_2, zm_3, zm_4, zm_5, zm_6, zm_7, zm_8, zm_9, zf_0, zf_1, zf_2, zf_3, zf_4, zf_5, zf_6, zf_7, zf_8, zf_9, zf_10, zf_14, zf_15, zf_16, zf_18, zf_19, zf_20, zf_24, zf_30, zf_31, zf_32, zf_33, zf_99, zf_100, zf_160, zf_200, zf_287, zf_288, zf_300, zf_1000, zf_1023, zf_1024, zf_1600, zf_3840, zf_25600, zf_36000, zf_1000000, zf_1000000000, zf_2000000000, zf_11560, za_1, za_2, za_4, za_5, za_6, za_7, za_8, za_9, za_10, za_11, za_12, za_14, za_15, za_22, za_23, za_25, za_26, za_27, za_28, za_29, za_30, za_31, za_32, za_33, za_34, za_35, za_41, za_42, za_43, za_44, za_45, za_46, za_47, za_48, za_49, za_61, za_62, za_63, za_64, za_65, za_70, cell_at]
        rw [cal_t g1]
    · rintro g ⟨m2, V2⟩ ⟨j1, j2, j3, j4⟩
      have j1 : Off 46 47 m m2 := j1
      have h2 : SC m2 a way n e L w := h.cg ha (fun k hk => j1 k (by omega)) (by rw [j1 40 (by omega)]) (by rw [j1 40 (by omega)]) (by rw [j1 40 (by omega)])
      have e402' := h2.2.1
      have en := h2.1.1
      refine ⟨m2, V2, ?_, j1, j2, j3, j4⟩
      show S_X4_measureReading_57 N (L_X4_measureReading_57 N g) m2 (nI p) (nI n) = _
      unfold S_X4_measureReading_57
      simp (disch := omega) only [zi_t, zi_f, bnd_t, zg_in, zx, nI_ltI, nI_leI, nI_eq, nI_add, pk_mul, pk_sub, mup_s, mup_c, mup_j, mrw_c, if_pos, if_neg, zm_1, zm_2, zm_3, zm_4, zm_5, zm_6, zm_7, zm_8, zm_9, zf_0, zf_1, zf_2, zf_3, zf_4, zf_5, zf_6, zf_7, zf_8, zf_9, zf_10, zf_14, zf_15, zf_16, zf_18, zf_19, zf_20, zf_24, zf_30, zf_31, zf_32, zf_33, zf_99, zf_100, zf_160, zf_200, zf_287, zf_288, zf_300, zf_1000, zf_1023, zf_1024, zf_1600, zf_3840, zf_25600, zf_36000, zf_1000000, zf_1000000000, zf_2000000000, zf_11560, za_1, za_2, za_4, za_5, za_6, za_7, za_8, za_9, za_10, za_11, za_12, za_14, za_15, za_22, za_23, za_25, za_26, za_27, za_28, za_29, za_30, za_31, za_32, za_33, za_34, za_35, za_41, za_42, za_43, za_44, za_45, za_46, za_47, za_48, za_49, za_61, za_62, za_63, za_64, za_65, za_70, e402', gd_t hk, en]
