def SA (n way : Nat) (L : ArL) (p k : Nat) (V0 V : Nat → Nat) : Prop := ∀ j q c, j < k → L[j]? = some q → cSt way q = some c → V0 (32 * p + too q.1) < 1000000000 → V (32 * p + fr q.1) ≤ V0 (32 * p + too q.1) + c
theorem cl_mPass {N a n p way r : Nat} {e : Int32} {f : Nat → Bool} {L : ArL} {w : List Nat} {δ V : Nat → Nat} {m : Mem} {rec : Mem → Int32 → Int32 → Int32 → Option Mem} (hN : 40000 < N) (ha : 200 ≤ a) (ha2 : a < 300) (hk : (knd a == 3) = true) (h : SC m a way n e L w) (hok : DOK n L) (hl : L.length ≤ 160) (hway : way < 3) (hwl : w.length ≤ 8) (hn : n ≤ 32) (hδ : IsD (eG way L w) (En n f w) δ) (hp : p ≤ w.length) (hr : r < 100) (hP : PI m n f w δ p V) :
    ∃ m' V' fl, L_X4_measureStaying_24 N rec N m (nI p) (nI 0) (nI r) (nI 0) = rec m' (nI p) (bI fl) (nI (r + 1)) ∧ Off 46 47 m m' ∧ PI m' n f w δ p V' ∧ (∀ x, V' x ≤ V x) ∧ SA n way L p L.length V V' ∧ (fl = false → V' = V) := by
  refine loopF (σ := Mem × (Nat → Nat) × Bool) (fun g x i => L_X4_measureStaying_24 N rec g x.1 (nI p) (bI x.2.2) (nI r) (nI i)) L.length (fun i x => Off 46 47 m x.1 ∧ PI x.1 n f w δ p x.2.1 ∧ (∀ y, x.2.1 y ≤ V y) ∧ SA n way L p i V x.2.1 ∧ (x.2.2 = false → x.2.1 = V)) (fun o => ∃ m' V' fl, o = rec m' (nI p) (bI fl) (nI (r + 1)) ∧ Off 46 47 m m' ∧ PI m' n f w δ p V' ∧ (∀ x, V' x ≤ V x) ∧ SA n way L p L.length V V' ∧ (fl = false → V' = V)) ?_ ?_ N 0 (m, V, false) (Nat.zero_le _) ⟨Off.rf, hP, fun _ => Nat.le_refl _, fun j q c hj => absurd hj (Nat.not_lt_zero _), fun _ => rfl⟩ (by omega)
  · rintro g i ⟨m1, V1, fl⟩ hi ⟨i1, i2, i3, i4, i5⟩
    have i1 : Off 46 47 m m1 := i1
    have i2 : PI m1 n f w δ p V1 := i2
    have i3 : ∀ y, V1 y ≤ V y := i3
    have i4 : SA n way L p i V V1 := i4
    have i5 : fl = false → V1 = V := i5
    have h1 : SC m1 a way n e L w := h.cg ha (fun k hk => i1 k (by omega)) (by rw [i1 40 (by omega)]) (by rw [i1 40 (by omega)]) (by rw [i1 40 (by omega)])
    obtain ⟨q, hq⟩ : ∃ q, L[i]? = some q := ⟨_, List.getElem?_eq_getElem hi⟩
    have hqm := hok q (List.mem_of_getElem? hq)
    have hf1 := hqm.2.1
    have ht1 := hqm.2.2.1
    obtain ⟨e42, e43, e44, e45⟩ := h1.2.2.2.2.2 i q hq
    have e402 := h1.2.1
    have eL := h1.1.2.2.1
    have hrd := cl_stay (N := N) ha ha2 hk h1 hok hl hway hq
    obtain ⟨m2, V2, ch, g1, g2, g3, g4, g5, g6⟩ := pl_less (N := N) (p := p) (s := fr q.1) (b := 32 * p + too q.1) (o := cSt way q) (x := nI (32 * p + too q.1)) hwl hn hδ i2 hp hf1 (fun c hc => ⟨⟨syW way q, p, hp, Or.inl ⟨q, List.mem_of_getElem? hq, hc, rfl, rfl, rfl⟩⟩, cSt_le hqm hc, rfl, p, too q.1, by omega, by omega, hp, ht1, rfl⟩)
    have hsa : SA n way L p (i + 1) V V2 := by
      intro j t c hj ht hc hlt
      by_cases ej : j = i
      · rw [ej, hq] at ht
        have := Option.some.inj ht
        subst this
        have h3 := i3 (32 * p + too q.1)
        have := g5 c hc (by omega)
        omega
      · have := i4 j t c (by omega) ht hc hlt
        have := g4 (32 * p + fr t.1)
        omega
    refine Or.inl ⟨(m2, V2, fl || ch), ⟨i1.tr g3, g2, fun y => Nat.le_trans (g4 y) (i3 y), hsa, fun hfl => ?_⟩, ?_⟩
    · have hfl : (fl || ch) = false := hfl
      rw [Bool.or_eq_false_iff] at hfl
      show V2 = V
      rw [g6 hfl.2, i5 hfl.1]
    · show S_X4_measureStaying_24 N rec (L_X4_measureStaying_24 N rec g) m1 (nI p) (bI fl) (nI r) (nI i) = L_X4_measureStaying_24 N rec g m2 (nI p) (bI (fl || ch)) (nI r) (nI (i + 1))
      unfold S_X4_measureStaying_24 B_X4_measureStaying_76
      simp (disch := omega) only [zi_t, zi_f, bnd_t, zg_in, zx, nI_ltI, nI_leI, nI_eq, nI_add, pk_mul, pk_sub, mup_s, mup_c, mup_j, mrw_c, if_pos, if_neg, zm_1, zm_2, zm_3, zm_4, zm_5, zm_6, zm_7, zm_8, zm_9, zf_0, zf_1, zf_2, zf_3, zf_4, zf_5, zf_6, zf_7, zf_8, zf_9, zf_10, zf_14, zf_15, zf_16, zf_18, zf_19, zf_20, zf_24, zf_30, zf_31, zf_32, zf_33, zf_99, zf_100, zf_160, zf_200, zf_287, zf_288, zf_300, zf_1000, zf_1023, zf_1024, zf_1600, zf_3840, zf_25600, zf_36000, zf_1000000, zf_1000000000, zf_2000000000, zf_11560, za_1, za_2, za_4, za_5, za_6, za_7, za_8, za_9, za_10, za_11, za_12, za_14, za_15, za_22, za_23, za_25, za_26, za_27, za_28, za_29, za_30, za_31, za_32, za_33, za_34, za_35, za_41, za_42, za_43, za_44, za_45, za_46, za_47, za_48, za_49, za_61, za_62, za_63, za_64, za_65, za_70, e402, gd_t hk, eL]
      rw [cal_t hrd]
      simp (disch := omega) only [zi_t, zi_f, bnd_t, zg_in, zx, nI_ltI, nI_leI, nI_eq, nI_add, pk_mul, pk_sub, mup_s, mup_c, mup_j, mrw_c, if_pos, if_neg, zm_1, zm_2, zm_3, zm_4, zm_5, zm_6, zm_7, zm_8, zm_9, zf_0, zf_1, zf_2, zf_3, zf_4, zf_5, zf_6, zf_7, zf_8, zf_9, zf_10, zf_14, zf_15, zf_16, zf_18, zf_19, zf_20, zf_24, zf_30, zf_31, zf_32, zf_33, zf_99, zf_100, zf_160, zf_200, zf_287, zf_288, zf_300, zf_1000, zf_1023, zf_1024, zf_1600, zf_3840, zf_25600, zf_36000, zf_1000000, zf_1000000000, zf_2000000000, zf_11560, za_1, za_2, za_4, za_5, za_6, za_7, za_8, za_9, za_10, za_11, za_12, za_14, za_15, za_22, za_23, za_25, za_26, za_27, za_28, za_29, za_30, za_31, za_32, za_33, za_34, za_35, za_41, za_42, za_43, za_44, za_45, za_46, za_47, za_48, za_49, za_61, za_62, za_63, za_64, za_65, za_70, e42, e45, cell_at]
      rw [cal_t g1]
      cases ch with
      | false => simp (disch := omega) only [zi_t, zi_f, bnd_t, zg_in, zx, nI_ltI, nI_leI, nI_eq, nI_add, pk_mul, pk_sub, mup_s, mup_c, mup_j, mrw_c, if_pos, if_neg, zm_1, zm_2, zm_3, zm_4, zm_5, zm_6, zm_7, zm_8, zm_9, zf_0, zf_1, zf_2, zf_3, zf_4, zf_5, zf_6, zf_7, zf_8, zf_9, zf_10, zf_14, zf_15, zf_16, zf_18, zf_19, zf_20, zf_24, zf_30, zf_31, zf_32, zf_33, zf_99, zf_100, zf_160, zf_200, zf_287, zf_288, zf_300, zf_1000, zf_1023, zf_1024, zf_1600, zf_3840, zf_25600, zf_36000, zf_1000000, zf_1000000000, zf_2000000000, zf_11560, za_1, za_2, za_4, za_5, za_6, za_7, za_8, za_9, za_10, za_11, za_12, za_14, za_15, za_22, za_23, za_25, za_26, za_27, za_28, za_29, za_30, za_31, za_32, za_33, za_34, za_35, za_41, za_42, za_43, za_44, za_45, za_46, za_47, za_48, za_49, za_61, za_62, za_63, za_64, za_65, za_70, bI_f, Bool.or_false]
      | true => simp (disch := omega) only [zi_t, zi_f, bnd_t, zg_in, zx, nI_ltI, nI_leI, nI_eq, nI_add, pk_mul, pk_sub, mup_s, mup_c, mup_j, mrw_c, if_pos, if_neg, zm_1, zm_2, zm_3, zm_4, zm_5, zm_6, zm_7, zm_8, zm_9, zf_0, zf_1, zf_2, zf_3, zf_4, zf_5, zf_6, zf_7, zf_8, zf_9, zf_10, zf_14, zf_15, zf_16, zf_18, zf_19, zf_20, zf_24, zf_30, zf_31, zf_32, zf_33, zf_99, zf_100, zf_160, zf_200, zf_287, zf_288, zf_300, zf_1000, zf_1023, zf_1024, zf_1600, zf_3840, zf_25600, zf_36000, zf_1000000, zf_1000000000, zf_2000000000, zf_11560, za_1, za_2, za_4, za_5, za_6, za_7, za_8, za_9, za_10, za_11, za_12, za_14, za_15, za_22, za_23, za_25, za_26, za_27, za_28, za_29, za_30, za_31, za_32, za_33, za_34, za_35, za_41, za_42, za_43, za_44, za_45, za_46, za_47, za_48, za_49, za_61, za_62, za_63, za_64, za_65, za_70, bI_t, Bool.or_true]
  · rintro g ⟨m1, V1, fl⟩ ⟨i1, i2, i3, i4, i5⟩
    have i1 : Off 46 47 m m1 := i1
    have h1 : SC m1 a way n e L w := h.cg ha (fun k hk => i1 k (by omega)) (by rw [i1 40 (by omega)]) (by rw [i1 40 (by omega)]) (by rw [i1 40 (by omega)])
    have e402 := h1.2.1
    have eL := h1.1.2.2.1
    refine ⟨m1, V1, fl, ?_, i1, i2, i3, i4, i5⟩
    show S_X4_measureStaying_24 N rec (L_X4_measureStaying_24 N rec g) m1 (nI p) (bI fl) (nI r) (nI L.length) = _
    unfold S_X4_measureStaying_24
    simp (disch := omega) only [zi_t, zi_f, bnd_t, zg_in, zx, nI_ltI, nI_leI, nI_eq, nI_add, pk_mul, pk_sub, mup_s, mup_c, mup_j, mrw_c, if_pos, if_neg, zm_1, zm_2, zm_3, zm_4, zm_5, zm_6, zm_7, zm_8, zm_9, zf_0, zf_1, zf_2, zf_3, zf_4, zf_5, zf_6, zf_7, zf_8, zf_9, zf_10, zf_14, zf_15, zf_16, zf_18, zf_19, zf_20, zf_24, zf_30, zf_31, zf_32, zf_33, zf_99, zf_100, zf_160, zf_200, zf_287, zf_288, zf_300, zf_1000, zf_1023, zf_1024, zf_1600, zf_3840, zf_25600, zf_36000, zf_1000000, zf_1000000000, zf_2000000000, zf_11560, za_1, za_2, za_4, za_5, za_6, za_7, za_8, za_9, za_10, za_11, za_12, za_14, za_15, za_22, za_23, za_25, za_26, za_27, za_28, za_29, za_30, za_31, za_32, za_33, za_34, za_35, za_41, za_42, za_43, za_44, za_45, za_46, za_47, za_48, za_49, za_61, za_62, za_63, za_64, za_65, za_70, e402, gd_t hk, eL]
theorem pl_round {n p way : Nat} {f : Nat → Bool} {L : ArL} {w : List Nat} {δ V V' : Nat → Nat} {m m' : Mem} (hwl : w.length ≤ 8) (hn : n ≤ 32) (hok : DOK n L) (hδ : IsD (eG way L w) (En n f w) δ) (hp : p ≤ w.length) (hP : PI m n f w δ p V) (hP' : PI m' n f w δ p V') (hle : ∀ x, V' x ≤ V x) (hR : RA n way L w δ p L.length V) (hS : RS n way w δ p n V) (hA : SA n way L p L.length V V') :
    (∀ s, s < n → V (32 * p + s) = δ (32 * p + s)) ∨ ∃ s, s < n ∧ V (32 * p + s) ≠ δ (32 * p + s) ∧ V' (32 * p + s) = δ (32 * p + s) := by
  have hb := eg_bd (way := way) (w := w) hwl hn hok
  have key := relax (V := V) (V' := V') (X := fun a => ∃ s, s < n ∧ a = 32 * p + s) hδ hb (by rintro a ⟨s, hs, rfl⟩; exact (hP'.2.2 s hs).1) (fun a _ => hle a) (by rintro a ⟨s, hs, rfl⟩; exact (hP.1 p s (Nat.le_refl _) hp hs).2) (by rintro a ⟨s, hs, rfl⟩ he; exact (hP'.2.2 s hs).2 he) (by
    rintro a c b ⟨s, hs, rfl⟩ ⟨y, p', hp', hE⟩ hVb hlt
    rcases hE with ⟨q, hq, h1, h2, rfl, _⟩ | ⟨q, hq, h1, h2, rfl, _⟩ | ⟨s', hs', h1, h2, rfl, _⟩
    · have hqf := (hok q hq).2.1
      have ep : p' = p := by omega
      subst ep
      obtain ⟨j, hj⟩ := List.getElem?_of_mem hq
      have := hA j q c (List.getElem?_eq_some_iff.mp hj).1 hj h1 (by omega)
      rw [h2]; omega
    · have hqf := (hok q hq).2.1
      have ep : p' = p := by omega
      subst ep
      obtain ⟨j, hj⟩ := List.getElem?_of_mem hq
      have := hR j q c (List.getElem?_eq_some_iff.mp hj).1 hj h1 (by omega)
      have := hle (32 * p' + fr q.1)
      rw [h2]; omega
    · have ep : p' = p := by omega
      subst ep
      have es : s = s' := by omega
      subst es
      have := hS s c hs hs h1 (by omega)
      have := hle (32 * p' + s)
      omega) (by
    rintro a c b ⟨s, hs, rfl⟩ ⟨y, p', hp', hE⟩
    rcases hE with ⟨q, hq, h1, h2, rfl, _⟩ | ⟨q, hq, h1, h2, rfl, _⟩ | ⟨s', hs', h1, h2, rfl, _⟩
    · have hqf := (hok q hq).2.1
      have hqt := (hok q hq).2.2.1
      have ep : p' = p := by omega
      subst ep
      exact Or.inl ⟨_, hqt, rfl⟩
    · have hqf := (hok q hq).2.1
      have hqt := (hok q hq).2.2.1
      have ep : p' = p := by omega
      subst ep
      have := cRd_lt h1
      exact Or.inr (hP.2.1 (p' + 1) _ (by omega) (by omega) hqt)
    · have ep : p' = p := by omega
      subst ep
      have es : s = s' := by omega
      subst es
      have := cSk_lt h1
      exact Or.inr (hP.2.1 (p' + 1) _ (by omega) (by omega) hs))
  rcases key with h | ⟨a, ⟨s, hs, rfl⟩, h1, h2⟩
  · exact Or.inl (fun s hs => h _ ⟨s, hs, rfl⟩)
  · exact Or.inr ⟨s, hs, h1, h2⟩
theorem cl_mStaying {N a n p way : Nat} {e : Int32} {f : Nat → Bool} {L : ArL} {w : List Nat} {δ V : Nat → Nat} {m : Mem} (hN : 40000 < N) (ha : 200 ≤ a) (ha2 : a < 300) (hk : (knd a == 3) = true) (h : SC m a way n e L w) (hok : DOK n L) (hl : L.length ≤ 160) (hway : way < 3) (hwl : w.length ≤ 8) (hn : n ≤ 32) (hδ : IsD (eG way L w) (En n f w) δ) (hp : p ≤ w.length) (hP : PI m n f w δ p V) (hR : RA n way L w δ p L.length V) (hS : RS n way w δ p n V) :
    ∃ m', F_X4_measureStaying N m (nI p) = some m' ∧ Off 46 47 m m' ∧ TD m' n w p δ := by
  unfold F_X4_measureStaying
  have fin : ∀ m' V', PI m' n f w δ p V' → (∀ s, s < n → V' (32 * p + s) = δ (32 * p + s)) → TD m' n w p δ := by
    intro m' V' hP' hc q s h1 h2 h3
    have e : V' (32 * q + s) = δ (32 * q + s) := by
      by_cases eq : q = p
      · rw [eq]; exact hc s h3
      · exact hP'.2.1 q s (by omega) h2 h3
    rw [← e]
    exact hP'.1 q s h1 h2 h3
  refine loopF (σ := Mem × (Nat → Nat) × Bool) (fun g x r => L_X4_measureStaying_4 N g x.1 (nI p) (bI x.2.2) (nI r)) (n + 1) (fun r x => Off 46 47 m x.1 ∧ PI x.1 n f w δ p x.2.1 ∧ RA n way L w δ p L.length x.2.1 ∧ RS n way w δ p n x.2.1 ∧ ((∀ s, s < n → x.2.1 (32 * p + s) = δ (32 * p + s)) ∨ (r ≤ cnt (fun s => decide (x.2.1 (32 * p + s) = δ (32 * p + s))) n ∧ x.2.2 = true))) (fun o => ∃ m', o = some m' ∧ Off 46 47 m m' ∧ TD m' n w p δ) ?_ ?_ N 0 (m, V, true) (by omega) ⟨Off.rf, hP, hR, hS, Or.inr ⟨Nat.zero_le _, rfl⟩⟩ (by omega)
  · rintro g r ⟨m1, V1, fl⟩ hr ⟨i1, i2, i3, i4, i5⟩
    have i1 : Off 46 47 m m1 := i1
    have i2 : PI m1 n f w δ p V1 := i2
    have i3 : RA n way L w δ p L.length V1 := i3
    have i4 : RS n way w δ p n V1 := i4
    have i5 : (∀ s, s < n → V1 (32 * p + s) = δ (32 * p + s)) ∨ (r ≤ cnt (fun s => decide (V1 (32 * p + s) = δ (32 * p + s))) n ∧ fl = true) := i5
    have h1 : SC m1 a way n e L w := h.cg ha (fun k hk => i1 k (by omega)) (by rw [i1 40 (by omega)]) (by rw [i1 40 (by omega)]) (by rw [i1 40 (by omega)])
    have e402 := h1.2.1
    have en := h1.1.1
    show (∃ s' : Mem × (Nat → Nat) × Bool, _ ∧ S_X4_measureStaying_4 N (L_X4_measureStaying_4 N g) m1 (nI p) (bI fl) (nI r) = _) ∨ ∃ m', S_X4_measureStaying_4 N (L_X4_measureStaying_4 N g) m1 (nI p) (bI fl) (nI r) = _ ∧ _
    unfold S_X4_measureStaying_4 B_X4_measureStaying_88
    cases fl with
    | false =>
      right
      refine ⟨m1, ?_, i1, fin m1 V1 i2 ?_⟩
      · simp (disch := omega) only [zi_t, zi_f, bnd_t, zg_in, zx, nI_ltI, nI_leI, nI_eq, nI_add, pk_mul, pk_sub, mup_s, mup_c, mup_j, mrw_c, if_pos, if_neg, zm_1, zm_2, zm_3, zm_4, zm_5, zm_6, zm_7, zm_8, zm_9, zf_0, zf_1, zf_2, zf_3, zf_4, zf_5, zf_6, zf_7, zf_8, zf_9, zf_10, zf_14, zf_15, zf_16, zf_18, zf_19, zf_20, zf_24, zf_30, zf_31, zf_32, zf_33, zf_99, zf_100, zf_160, zf_200, zf_287, zf_288, zf_300, zf_1000, zf_1023, zf_1024, zf_1600, zf_3840, zf_25600, zf_36000, zf_1000000, zf_1000000000, zf_2000000000, zf_11560, za_1, za_2, za_4, za_5, za_6, za_7, za_8, za_9, za_10, za_11, za_12, za_14, za_15, za_22, za_23, za_25, za_26, za_27, za_28, za_29, za_30, za_31, za_32, za_33, za_34, za_35, za_41, za_42, za_43, za_44, za_45, za_46, za_47, za_48, za_49, za_61, za_62, za_63, za_64, za_65, za_70, bI_f]
      · rcases i5 with h | ⟨_, h⟩
        · exact h
        · cases h
    | true =>
      by_cases crn : n ≤ r
      · right
        refine ⟨m1, ?_, i1, fin m1 V1 i2 ?_⟩
        · simp (disch := omega) only [zi_t, zi_f, bnd_t, zg_in, zx, nI_ltI, nI_leI, nI_eq, nI_add, pk_mul, pk_sub, mup_s, mup_c, mup_j, mrw_c, if_pos, if_neg, zm_1, zm_2, zm_3, zm_4, zm_5, zm_6, zm_7, zm_8, zm_9, zf_0, zf_1, zf_2, zf_3, zf_4, zf_5, zf_6, zf_7, zf_8, zf_9, zf_10, zf_14, zf_15, zf_16, zf_18, zf_19, zf_20, zf_24, zf_30, zf_31, zf_32, zf_33, zf_99, zf_100, zf_160, zf_200, zf_287, zf_288, zf_300, zf_1000, zf_1023, zf_1024, zf_1600, zf_3840, zf_25600, zf_36000, zf_1000000, zf_1000000000, zf_2000000000, zf_11560, za_1, za_2, za_4, za_5, za_6, za_7, za_8, za_9, za_10, za_11, za_12, za_14, za_15, za_22, za_23, za_25, za_26, za_27, za_28, za_29, za_30, za_31, za_32, za_33, za_34, za_35, za_41, za_42, za_43, za_44, za_45, za_46, za_47, za_48, za_49, za_61, za_62, za_63, za_64, za_65, za_70, bI_t, e402, gd_t hk, en]
        · rcases i5 with h | ⟨h, _⟩
          · exact h
          · intro s hs
            exact of_decide_eq_true (cnt_full (b := fun s => decide (V1 (32 * p + s) = δ (32 * p + s))) (n := n) (by omega) s hs)
      · left
        obtain ⟨m2, V2, fl2, g1, g2, g3, g4, g5, g6⟩ := cl_mPass (N := N) (rec := L_X4_measureStaying_4 N g) (r := r) hN ha ha2 hk h1 hok hl hway hwl hn hδ hp (by omega) i2
        refine ⟨(m2, V2, fl2), ⟨i1.tr g2, g3, fun j q c hj hq hc hlt => ?_, fun s c hs hsn hc hlt => ?_, ?_⟩, ?_⟩
        · have := i3 j q c hj hq hc hlt
          have := g4 (32 * p + fr q.1)
          show V2 (32 * p + fr q.1) ≤ _
          omega
        · have := i4 s c hs hsn hc hlt
          have := g4 (32 * p + s)
          show V2 (32 * p + s) ≤ _
          omega
        · show (∀ s, s < n → V2 (32 * p + s) = δ (32 * p + s)) ∨ (r + 1 ≤ cnt (fun s => decide (V2 (32 * p + s) = δ (32 * p + s))) n ∧ fl2 = true)
          have hkeep : ∀ s, s < n → V1 (32 * p + s) = δ (32 * p + s) → V2 (32 * p + s) = δ (32 * p + s) := by
            intro s hs he
            have h1 : V2 (32 * p + s) ≤ V1 (32 * p + s) := g4 (32 * p + s)
            have := (g3.2.2 s hs).1
            omega
          rcases pl_round hwl hn hok hδ hp i2 g3 g4 i3 i4 g5 with hall | ⟨s, hs, x1, x2⟩
          · exact Or.inl (fun s hs => hkeep s hs (hall s hs))
          · rcases i5 with hall | ⟨hcn, _⟩
            · exact absurd (hall s hs) x1
            · right
              constructor
              · have hlt := cnt_lt (a := fun s => decide (V1 (32 * p + s) = δ (32 * p + s) ∧ s < n)) (b := fun s => decide (V2 (32 * p + s) = δ (32 * p + s) ∧ s < n)) (fun s hs => by
                  have hs := of_decide_eq_true hs
                  exact decide_eq_true ⟨hkeep s hs.2 hs.1, hs.2⟩) (x := s) (decide_eq_true ⟨x2, hs⟩) (decide_eq_false (fun h => x1 h.1)) n hs
                have c1 : cnt (fun s => decide (V1 (32 * p + s) = δ (32 * p + s) ∧ s < n)) n = cnt (fun s => decide (V1 (32 * p + s) = δ (32 * p + s))) n := cnt_cg (fun i hi => by
                  by_cases c : V1 (32 * p + i) = δ (32 * p + i)
                  · rw [decide_eq_true c, decide_eq_true ⟨c, hi⟩]
                  · rw [decide_eq_false c, decide_eq_false (fun h => c h.1)])
                have c2 : cnt (fun s => decide (V2 (32 * p + s) = δ (32 * p + s) ∧ s < n)) n = cnt (fun s => decide (V2 (32 * p + s) = δ (32 * p + s))) n := cnt_cg (fun i hi => by
                  by_cases c : V2 (32 * p + i) = δ (32 * p + i)
                  · rw [decide_eq_true c, decide_eq_true ⟨c, hi⟩]
                  · rw [decide_eq_false c, decide_eq_false (fun h => c h.1)])
                omega
              · cases hfl : fl2 with
                | true => rfl
                | false => rw [g6 hfl] at x2; exact absurd x2 x1
        · simp (disch := omega) only [zi_t, zi_f, bnd_t, zg_in, zx, nI_ltI, nI_leI, nI_eq, nI_add, pk_mul, pk_sub, mup_s, mup_c, mup_j, mrw_c, if_pos, if_neg, zm_1, zm_2, zm_3, zm_4, zm_5, zm_6, zm_7, zm_8, zm_9, zf_0, zf_1, zf_2, zf_3, zf_4, zf_5, zf_6, zf_7, zf_8, zf_9, zf_10, zf_14, zf_15, zf_16, zf_18, zf_19, zf_20, zf_24, zf_30, zf_31, zf_32, zf_33, zf_99, zf_100, zf_160, zf_200, zf_287, zf_288, zf_300, zf_1000, zf_1023, zf_1024, zf_1600, zf_3840, zf_25600, zf_36000, zf_1000000, zf_1000000000, zf_2000000000, zf_11560, za_1, za_2, za_4, za_5, za_6, za_7, za_8, za_9, za_10, za_11, za_12, za_14, za_15, za_22, za_23, za_25, za_26, za_27, za_28, za_29, za_30, za_31, za_32, za_33, za_34, za_35, za_41, za_42, za_43, za_44, za_45, za_46, za_47, za_48, za_49, za_61, za_62, za_63, za_64, za_65, za_70, bI_t, e402, gd_t hk, en]
          exact g1
  · rintro g ⟨m1, V1, fl⟩ ⟨i1, i2, i3, i4, i5⟩
    have i1 : Off 46 47 m m1 := i1
    have i5 : (∀ s, s < n → V1 (32 * p + s) = δ (32 * p + s)) ∨ (n + 1 ≤ cnt (fun s => decide (V1 (32 * p + s) = δ (32 * p + s))) n ∧ fl = true) := i5
    have h1 : SC m1 a way n e L w := h.cg ha (fun k hk => i1 k (by omega)) (by rw [i1 40 (by omega)]) (by rw [i1 40 (by omega)]) (by rw [i1 40 (by omega)])
    have e402 := h1.2.1
    have en := h1.1.1
    refine ⟨m1, ?_, i1, fin m1 V1 i2 ?_⟩
    · show S_X4_measureStaying_4 N (L_X4_measureStaying_4 N g) m1 (nI p) (bI fl) (nI (n + 1)) = _
      unfold S_X4_measureStaying_4 B_X4_measureStaying_88
      cases fl with
      | false => simp (disch := omega) only [zi_t, zi_f, bnd_t, zg_in, zx, nI_ltI, nI_leI, nI_eq, nI_add, pk_mul, pk_sub, mup_s, mup_c, mup_j, mrw_c, if_pos, if_neg, zm_1, zm_2, zm_3, zm_4, zm_5, zm_6, zm_7, zm_8, zm_9, zf_0, zf_1, zf_2, zf_3, zf_4, zf_5, zf_6, zf_7, zf_8, zf_9, zf_10, zf_14, zf_15, zf_16, zf_18, zf_19, zf_20, zf_24, zf_30, zf_31, zf_32, zf_33, zf_99, zf_100, zf_160, zf_200, zf_287, zf_288, zf_300, zf_1000, zf_1023, zf_1024, zf_1600, zf_3840, zf_25600, zf_36000, zf_1000000, zf_1000000000, zf_2000000000, zf_11560, za_1, za_2, za_4, za_5, za_6, za_7, za_8, za_9, za_10, za_11, za_12, za_14, za_15, za_22, za_23, za_25, za_26, za_27, za_28, za_29, za_30, za_31, za_32, za_33, za_34, za_35, za_41, za_42, za_43, za_44, za_45, za_46, za_47, za_48, za_49, za_61, za_62, za_63, za_64, za_65, za_70, bI_f]
      | true => simp (disch := omega) only [zi_t, zi_f, bnd_t, zg_in, zx, nI_ltI, nI_leI, nI_eq, nI_add, pk_mul, pk_sub, mup_s, mup_c, mup_j, mrw_c, if_pos, if_neg, zm_1, zm_2, zm_3, zm_4, zm_5, zm_6, zm_7, zm_8, zm_9, zf_0, zf_1, zf_2, zf_3, zf_4, zf_5, zf_6, zf_7, zf_8, zf_9, zf_10, zf_14, zf_15, zf_16, zf_18, zf_19, zf_20, zf_24, zf_30, zf_31, zf_32, zf_33, zf_99, zf_100, zf_160, zf_200, zf_287, zf_288, zf_300, zf_1000, zf_1023, zf_1024, zf_1600, zf_3840, zf_25600, zf_36000, zf_1000000, zf_1000000000, zf_2000000000, zf_11560, za_1, za_2, za_4, za_5, za_6, za_7, za_8, za_9, za_10, za_11, za_12, za_14, za_15, za_22, za_23, za_25, za_26, za_27, za_28, za_29, za_30, za_31, za_32, za_33, za_34, za_35, za_41, za_42, za_43, za_44, za_45, za_46, za_47, za_48, za_49, za_61, za_62, za_63, za_64, za_65, za_70, bI_t, e402, gd_t hk, en]
    · rcases i5 with h | ⟨h, _⟩
      · exact h
      · have := cnt_le (fun s => decide (V1 (32 * p + s) = δ (32 * p + s))) n
        omega
