theorem sub_toInt {x y : Int32} (h1 : -2147483648 ≤ x.toInt - y.toInt) (h2 : x.toInt - y.toInt < 2147483648) : (x - y).toInt = x.toInt - y.toInt := by
  rw [Int32.toInt_sub]
  unfold Int.bmod
  simp only []
  split <;> omega
theorem InC.fs {m m' : Mem} {Ms : List Ma} {w : List Nat} {ls : Ls} (h : InC m Ms w ls) (hf : ∀ k, (k < 20 ∨ 32 ≤ k) → (k < 32 ∨ 36 ≤ k) → m' k = m k) (h20 : (m' 20 10 = nI 33 ∧ m' 20 11 = nI 34) ∨ (m' 20 10 = nI 34 ∧ m' 20 11 = nI 33)) : InC m' Ms w ls := by
  obtain ⟨h1, h2, h3, h4, h5, h6, h7⟩ := h
  refine ⟨by rw [hf 0 (by omega) (by omega)]; exact h1, fun i M hM => (h2 i M hM).cg (hf _ (by omega) (by omega)) (hf _ (by omega) (by omega)) (hf _ (by omega) (by omega)) (hf _ (by omega) (by omega)), by rw [hf 0 (by omega) (by omega)]; exact h3, fun j x hx => by rw [hf 1 (by omega) (by omega)]; exact h4 j x hx, by rw [hf 60 (by omega) (by omega)]; exact h5, fun i p hp => ?_, h20⟩
  obtain ⟨a, b, c⟩ := h6 i p hp
  exact ⟨by rw [hf 62 (by omega) (by omega)]; exact a, by rw [hf 63 (by omega) (by omega)]; exact b, fun j x hx => by rw [hf 61 (by omega) (by omega)]; exact c j x hx⟩
theorem InC.fS {m m' : Mem} {Ms : List Ma} {w : List Nat} {ls : Ls} (h : InC m Ms w ls) (hf : FrS m m') : InC m' Ms w ls :=
  h.fs (fun k a _ => hf.1 k a) (by rw [hf.2 10 (by omega) (by omega), hf.2 11 (by omega) (by omega)]; exact h.2.2.2.2.2.2)
theorem cl_length {N k J : Nat} {m : Mem} {s : XS} {pr by' : Nat → Nat} (hN : 40000 < N) (h : CX m s J) (hl : s.1.length ≤ 200) (h0 : s.2.2.1 0 = nM) (hpr : ∀ i, 1 ≤ i → pr i < i) (hp : ∀ i, 1 ≤ i → i < s.1.length → s.2.2.1 i = nI (pr i) ∧ s.2.2.2 i = nI (by' i) ∧ by' i < 8 ∧ s.2.1 (8 * pr i + by' i) = nI i) (hk : k < s.1.length) : F_X5_lengthOfWayTo N m (nI k) = some (nI (dp pr k), m) := by
  have hdk : dp pr k ≤ k := dpt_le hpr (k + 1) k
  unfold F_X5_lengthOfWayTo
  refine loopW (σ := Nat × Nat) (fun f x => L_X5_lengthOfWayTo_4 N f m (nI x.1) (nI x.2)) (fun x => x.1 < s.1.length ∧ x.2 + dp pr x.1 = dp pr k) (fun x => x.1) (fun o => o = some (nI (dp pr k), m)) ?_ N (k, 0) ⟨hk, Nat.zero_add _⟩ (by show k < N; omega)
  rintro f ⟨a, t⟩ ⟨i1, i2⟩
  have i1 : a < s.1.length := i1
  have i2 : t + dp pr a = dp pr k := i2
  have e30 := h.2.2.1 a i1
  rcases Nat.eq_zero_or_pos a with c | c
  · right
    rw [c] at e30 i2
    rw [h0] at e30
    have : t = dp pr k := by rw [dp_0] at i2; omega
    show S_X5_lengthOfWayTo_4 N (L_X5_lengthOfWayTo_4 N f) m (nI a) (nI t) = _
    rw [c, this]
    unfold S_X5_lengthOfWayTo_4 B_X5_lengthOfWayTo_33
    simp (disch := omega) only [zi_t, zi_f, bnd_t, zg_in, zx, nI_ltI, nI_leI, nI_eq, nI_add, pk_mul, pk_sub, mup_s, mup_c, mup_j, mrw_c, if_pos, if_neg, zm_1, zm_2, zm_3, zm_4, zm_5, zm_6, zm_7, zm_8, zm_9, zf_0, zf_1, zf_2, zf_3, zf_4, zf_5, zf_6, zf_7, zf_8, zf_9, zf_10, zf_14, zf_15, zf_16, zf_18, zf_19, zf_20, zf_24, zf_30, zf_31, zf_32, zf_33, zf_99, zf_100, zf_160, zf_200, zf_287, zf_288, zf_300, zf_1000, zf_1023, zf_1024, zf_1600, zf_3840, zf_25600, zf_36000, zf_1000000, zf_1000000000, zf_2000000000, zf_11560, za_1, za_2, za_4, za_5, za_6, za_7, za_8, za_9, za_10, za_11, za_12, za_14, za_15, za_22, za_23, za_25, za_26, za_27, za_28, za_29, za_30, za_31, za_32, za_33, za_34, za_35, za_41, za_42, za_43, za_44, za_45, za_46, za_47, za_48, za_49, za_61, za_62, za_63, za_64, za_65, za_70, e30]
  · left
    obtain ⟨e1, _⟩ := hp a c i1
    have h3 := hpr a c
    have h4 := dp_s hpr c
    rw [e1] at e30
    refine ⟨(pr a, t + 1), ⟨by show pr a < s.1.length; omega, by show t + 1 + dp pr (pr a) = dp pr k; omega⟩, h3, ?_⟩
    show S_X5_lengthOfWayTo_4 N (L_X5_lengthOfWayTo_4 N f) m (nI a) (nI t) = _
    unfold S_X5_lengthOfWayTo_4
    have h5 : t < 200 := by omega
    simp (disch := omega) only [zi_t, zi_f, bnd_t, zg_in, zx, nI_ltI, nI_leI, nI_eq, nI_add, pk_mul, pk_sub, mup_s, mup_c, mup_j, mrw_c, if_pos, if_neg, zm_1, zm_2, zm_3, zm_4, zm_5, zm_6, zm_7, zm_8, zm_9, zf_0, zf_1, zf_2, zf_3, zf_4, zf_5, zf_6, zf_7, zf_8, zf_9, zf_10, zf_14, zf_15, zf_16, zf_18, zf_19, zf_20, zf_24, zf_30, zf_31, zf_32, zf_33, zf_99, zf_100, zf_160, zf_200, zf_287, zf_288, zf_300, zf_1000, zf_1023, zf_1024, zf_1600, zf_3840, zf_25600, zf_36000, zf_1000000, zf_1000000000, zf_2000000000, zf_11560, za_1, za_2, za_4, za_5, za_6, za_7, za_8, za_9, za_10, za_11, za_12, za_14, za_15, za_22, za_23, za_25, za_26, za_27, za_28, za_29, za_30, za_31, za_32, za_33, za_34, za_35, za_41, za_42, za_43, za_44, za_45, za_46, za_47, za_48, za_49, za_61, za_62, za_63, za_64, za_65, za_70, e30]
theorem cl_letter {N k J p : Nat} {m : Mem} {s : XS} {pr by' : Nat → Nat} (hN : 40000 < N) (h : CX m s J) (hl : s.1.length ≤ 200) (h0 : s.2.2.1 0 = nM) (hpr : ∀ i, 1 ≤ i → pr i < i) (hp : ∀ i, 1 ≤ i → i < s.1.length → s.2.2.1 i = nI (pr i) ∧ s.2.2.2 i = nI (by' i) ∧ by' i < 8 ∧ s.2.1 (8 * pr i + by' i) = nI i) (hk : k < s.1.length) (hpl : p < 2 ^ 31) : F_X5_letterOnWayTo N m (nI k) (nI p) = some (nI (wlet pr by' k p), m) := by
  have hdk := dpt_le hpr (k + 1) k
  have hdk : dp pr k ≤ k := hdk
  unfold F_X5_letterOnWayTo
  rw [cal_t (cl_length hN h hl h0 hpr hp hk)]
  unfold wlet
  obtain ⟨d, hd⟩ : ∃ d, d = dp pr k := ⟨_, rfl⟩
  rw [← hd] at hdk ⊢
  have t1 : (nI d - nI 1).toInt = (d : Int) - 1 := by
    rw [sub_toInt] <;> rw [nI_toInt (by omega), nI_toInt (by omega)] <;> omega
  have t2 : (nI d - nI 1 - nI p).toInt = (d : Int) - 1 - p := by
    rw [sub_toInt] <;> rw [t1, nI_toInt hpl] <;> omega
  by_cases c : d ≤ p
  · rw [if_pos c]
    have c1 : ¬ nI 0 ≤ nI d - nI 1 - nI p := by
      rw [Int32.le_iff_toInt_le, t2, nI_toInt (by omega)]
      omega
    show (if nI 0 ≤ nI d - nI 1 - nI p then _ else _) = _
    rw [if_neg c1]
    rfl
  · rw [if_neg c]
    have e1 : nI d - nI 1 - nI p = nI (d - 1 - p) := by
      apply Int32.toInt_inj.mp
      rw [t2, nI_toInt (by omega)]
      omega
    show (if nI 0 ≤ nI d - nI 1 - nI p then L_X5_letterOnWayTo_23 N N m (nI d - nI 1 - nI p) (nI k) (nI 0) else _) = _
    rw [e1, if_pos ((nI_leI (by omega) (by omega)).mpr (Nat.zero_le _))]
    refine loopF (σ := Nat) (fun f a b => L_X5_letterOnWayTo_23 N f m (nI (d - 1 - p)) (nI a) (nI b)) (d - 1 - p) (fun b a => a < s.1.length ∧ bkw pr (d - 1 - p - b) a = bkw pr (d - 1 - p) k ∧ d - 1 - p - b + 1 ≤ dp pr a) (fun o => o = some (nI (by' (bkw pr (d - 1 - p) k)), m)) ?_ ?_ N 0 k (Nat.zero_le _) ⟨hk, rfl, by omega⟩ (by omega)
    · rintro f b a hb ⟨i1, i2, i3⟩
      obtain ⟨r, hr⟩ : ∃ r, d - 1 - p - b = r + 1 := ⟨d - 1 - p - b - 1, by omega⟩
      have ha : 1 ≤ a := by
        rcases Nat.eq_zero_or_pos a with e | e
        · rw [e, dp_0] at i3; omega
        · exact e
      obtain ⟨e2, _⟩ := hp a ha i1
      have e30 := h.2.2.1 a i1
      rw [e2] at e30
      have h3 := hpr a ha
      have h4 := dp_s hpr ha
      rw [hr] at i2 i3
      refine Or.inl ⟨pr a, ⟨by omega, ?_, ?_⟩, ?_⟩
      · rw [show d - 1 - p - (b + 1) = r by omega]; exact i2
      · rw [show d - 1 - p - (b + 1) = r by omega]; omega
      · show S_X5_letterOnWayTo_23 N (L_X5_letterOnWayTo_23 N f) m (nI (d - 1 - p)) (nI a) (nI b) = _
        unfold S_X5_letterOnWayTo_23
        simp (disch := omega) only [zi_t, zi_f, bnd_t, zg_in, zx, nI_ltI, nI_leI, nI_eq, nI_add, pk_mul, pk_sub, mup_s, mup_c, mup_j, mrw_c, if_pos, if_neg, zm_1, zm_2, zm_3, zm_4, zm_5, zm_6, zm_7, zm_8, zm_9, zf_0, zf_1, zf_2, zf_3, zf_4, zf_5, zf_6, zf_7, zf_8, zf_9, zf_10, zf_14, zf_15, zf_16, zf_18, zf_19, zf_20, zf_24, zf_30, zf_31, zf_32, zf_33, zf_99, zf_100, zf_160, zf_200, zf_287, zf_288, zf_300, zf_1000, zf_1023, zf_1024, zf_1600, zf_3840, zf_25600, zf_36000, zf_1000000, zf_1000000000, zf_2000000000, zf_11560, za_1, za_2, za_4, za_5, za_6, za_7, za_8, za_9, za_10, za_11, za_12, za_14, za_15, za_22, za_23, za_25, za_26, za_27, za_28, za_29, za_30, za_31, za_32, za_33, za_34, za_35, za_41, za_42, za_43, za_44, za_45, za_46, za_47, za_48, za_49, za_61, za_62, za_63, za_64, za_65, za_70, e30]
    · rintro f a ⟨i1, i2, i3⟩
      rw [Nat.sub_self] at i2 i3
      have ha : 1 ≤ a := by
        rcases Nat.eq_zero_or_pos a with e | e
        · rw [e, dp_0] at i3; omega
        · exact e
      obtain ⟨_, e2, _⟩ := hp a ha i1
      have e31 := h.2.2.2.1 a ha i1
      rw [e2] at e31
      rw [← i2]
      show S_X5_letterOnWayTo_23 N (L_X5_letterOnWayTo_23 N f) m (nI (d - 1 - p)) (nI a) (nI (d - 1 - p)) = some (nI (by' a), m)
      unfold S_X5_letterOnWayTo_23 B_X5_letterOnWayTo_54
      simp (disch := omega) only [zi_t, zi_f, bnd_t, zg_in, zx, nI_ltI, nI_leI, nI_eq, nI_add, pk_mul, pk_sub, mup_s, mup_c, mup_j, mrw_c, if_pos, if_neg, zm_1, zm_2, zm_3, zm_4, zm_5, zm_6, zm_7, zm_8, zm_9, zf_0, zf_1, zf_2, zf_3, zf_4, zf_5, zf_6, zf_7, zf_8, zf_9, zf_10, zf_14, zf_15, zf_16, zf_18, zf_19, zf_20, zf_24, zf_30, zf_31, zf_32, zf_33, zf_99, zf_100, zf_160, zf_200, zf_287, zf_288, zf_300, zf_1000, zf_1023, zf_1024, zf_1600, zf_3840, zf_25600, zf_36000, zf_1000000, zf_1000000000, zf_2000000000, zf_11560, za_1, za_2, za_4, za_5, za_6, za_7, za_8, za_9, za_10, za_11, za_12, za_14, za_15, za_22, za_23, za_25, za_26, za_27, za_28, za_29, za_30, za_31, za_32, za_33, za_34, za_35, za_41, za_42, za_43, za_44, za_45, za_46, za_47, za_48, za_49, za_61, za_62, za_63, za_64, za_65, za_70, e31]
def fwA (wa : Nat → Bool) : Nat → Nat → Option Nat
  | 0, _ => none
  | d + 1, k => if wa k = true then some k else fwA wa d (k + 1)
def apA (wa : Nat → Bool) (pr by' : Nat → Nat) (c p : Nat) : Int32 := match fwA wa c 0 with | none => nM | some k => nI (wlet pr by' k p)
theorem cl_firstW {N J p wn : Nat} {eA eB' : Int32} {m : Mem} {s : XS} {pr by' : Nat → Nat} (hN : 40000 < N) (h : CX m s J) (hl : s.1.length ≤ 200) (hw : CW m wn eA eB') (hwn : wn < 3) (h0 : s.2.2.1 0 = nM) (hpr : ∀ i, 1 ≤ i → pr i < i) (hp : ∀ i, 1 ≤ i → i < s.1.length → s.2.2.1 i = nI (pr i) ∧ s.2.2.2 i = nI (by' i) ∧ by' i < 8 ∧ s.2.1 (8 * pr i + by' i) = nI i) (hpl : p < 2 ^ 31) : F_X5_firstWantedLetter N m (nI p) = some (apA (waf wn eA eB' s.1) pr by' s.1.length p, m) := by
  unfold F_X5_firstWantedLetter apA
  refine loopF (σ := Unit) (fun f _ k => L_X5_firstWantedLetter_2 N f m (nI p) (nI k)) s.1.length (fun k _ => fwA (waf wn eA eB' s.1) (s.1.length - k) k = fwA (waf wn eA eB' s.1) s.1.length 0) (fun o => o = some (match fwA (waf wn eA eB' s.1) s.1.length 0 with | none => nM | some k => nI (wlet pr by' k p), m)) ?_ ?_ N 0 () (Nat.zero_le _) rfl (by omega)
  · rintro f k _ hk hI
    obtain ⟨d, hd⟩ : ∃ d, s.1.length - k = d + 1 := ⟨s.1.length - k - 1, by omega⟩
    have h20 := h.1
    have hw1 := cl_isWanted' (N := N) hw hwn h hk hl
    rw [hd] at hI
    have hI : (if waf wn eA eB' s.1 k = true then some k else fwA (waf wn eA eB' s.1) d (k + 1)) = fwA (waf wn eA eB' s.1) s.1.length 0 := hI
    show (∃ s' : Unit, _ ∧ S_X5_firstWantedLetter_2 N (L_X5_firstWantedLetter_2 N f) m (nI p) (nI k) = _) ∨ S_X5_firstWantedLetter_2 N (L_X5_firstWantedLetter_2 N f) m (nI p) (nI k) = _
    unfold S_X5_firstWantedLetter_2
    simp (disch := omega) only [zi_t, zi_f, bnd_t, zg_in, zx, nI_ltI, nI_leI, nI_eq, nI_add, pk_mul, pk_sub, mup_s, mup_c, mup_j, mrw_c, if_pos, if_neg, zm_1, zm_2, zm_3, zm_4, zm_5, zm_6, zm_7, zm_8, zm_9, zf_0, zf_1, zf_2, zf_3, zf_4, zf_5, zf_6, zf_7, zf_8, zf_9, zf_10, zf_14, zf_15, zf_16, zf_18, zf_19, zf_20, zf_24, zf_30, zf_31, zf_32, zf_33, zf_99, zf_100, zf_160, zf_200, zf_287, zf_288, zf_300, zf_1000, zf_1023, zf_1024, zf_1600, zf_3840, zf_25600, zf_36000, zf_1000000, zf_1000000000, zf_2000000000, zf_11560, za_1, za_2, za_4, za_5, za_6, za_7, za_8, za_9, za_10, za_11, za_12, za_14, za_15, za_22, za_23, za_25, za_26, za_27, za_28, za_29, za_30, za_31, za_32, za_33, za_34, za_35, za_41, za_42, za_43, za_44, za_45, za_46, za_47, za_48, za_49, za_61, za_62, za_63, za_64, za_65, za_70, h20]
    rw [cal_t hw1]
    cases hb : waf wn eA eB' s.1 k with
    | false =>
      rw [hb, if_neg (by simp)] at hI
      left
      refine ⟨(), by rw [show s.1.length - (k + 1) = d by omega]; exact hI, ?_⟩
      simp (disch := omega) only [zi_t, zi_f, bnd_t, zg_in, zx, nI_ltI, nI_leI, nI_eq, nI_add, pk_mul, pk_sub, mup_s, mup_c, mup_j, mrw_c, if_pos, if_neg, zm_1, zm_2, zm_3, zm_4, zm_5, zm_6, zm_7, zm_8, zm_9, zf_0, zf_1, zf_2, zf_3, zf_4, zf_5, zf_6, zf_7, zf_8, zf_9, zf_10, zf_14, zf_15, zf_16, zf_18, zf_19, zf_20, zf_24, zf_30, zf_31, zf_32, zf_33, zf_99, zf_100, zf_160, zf_200, zf_287, zf_288, zf_300, zf_1000, zf_1023, zf_1024, zf_1600, zf_3840, zf_25600, zf_36000, zf_1000000, zf_1000000000, zf_2000000000, zf_11560, za_1, za_2, za_4, za_5, za_6, za_7, za_8, za_9, za_10, za_11, za_12, za_14, za_15, za_22, za_23, za_25, za_26, za_27, za_28, za_29, za_30, za_31, za_32, za_33, za_34, za_35, za_41, za_42, za_43, za_44, za_45, za_46, za_47, za_48, za_49, za_61, za_62, za_63, za_64, za_65, za_70, bI_f]
    | true =>
      rw [hb, if_pos rfl] at hI
      right
      simp (disch := omega) only [zi_t, zi_f, bnd_t, zg_in, zx, nI_ltI, nI_leI, nI_eq, nI_add, pk_mul, pk_sub, mup_s, mup_c, mup_j, mrw_c, if_pos, if_neg, zm_1, zm_2, zm_3, zm_4, zm_5, zm_6, zm_7, zm_8, zm_9, zf_0, zf_1, zf_2, zf_3, zf_4, zf_5, zf_6, zf_7, zf_8, zf_9, zf_10, zf_14, zf_15, zf_16, zf_18, zf_19, zf_20, zf_24, zf_30, zf_31, zf_32, zf_33, zf_99, zf_100, zf_160, zf_200, zf_287, zf_288, zf_300, zf_1000, zf_1023, zf_1024, zf_1600, zf_3840, zf_25600, zf_36000, zf_1000000, zf_1000000000, zf_2000000000, zf_11560, za_1, za_2, za_4, za_5, za_6, za_7, za_8, za_9, za_10, za_11, za_12, za_14, za_15, za_22, za_23, za_25, za_26, za_27, za_28, za_29, za_30, za_31, za_32, za_33, za_34, za_35, za_41, za_42, za_43, za_44, za_45, za_46, za_47, za_48, za_49, za_61, za_62, za_63, za_64, za_65, za_70, bI_t]
      rw [cal_t (cl_letter hN h hl h0 hpr hp hk hpl), ← hI]
  · rintro f _ hI
    rw [Nat.sub_self] at hI
    have h20 := h.1
    rw [← hI]
    show S_X5_firstWantedLetter_2 N (L_X5_firstWantedLetter_2 N f) m (nI p) (nI s.1.length) = _
    unfold S_X5_firstWantedLetter_2
    simp (disch := omega) only [zi_t, zi_f, bnd_t, zg_in, zx, nI_ltI, nI_leI, nI_eq, nI_add, pk_mul, pk_sub, mup_s, mup_c, mup_j, mrw_c, if_pos, if_neg, zm_1, zm_2, zm_3, zm_4, zm_5, zm_6, zm_7, zm_8, zm_9, zf_0, zf_1, zf_2, zf_3, zf_4, zf_5, zf_6, zf_7, zf_8, zf_9, zf_10, zf_14, zf_15, zf_16, zf_18, zf_19, zf_20, zf_24, zf_30, zf_31, zf_32, zf_33, zf_99, zf_100, zf_160, zf_200, zf_287, zf_288, zf_300, zf_1000, zf_1023, zf_1024, zf_1600, zf_3840, zf_25600, zf_36000, zf_1000000, zf_1000000000, zf_2000000000, zf_11560, za_1, za_2, za_4, za_5, za_6, za_7, za_8, za_9, za_10, za_11, za_12, za_14, za_15, za_22, za_23, za_25, za_26, za_27, za_28, za_29, za_30, za_31, za_32, za_33, za_34, za_35, za_41, za_42, za_43, za_44, za_45, za_46, za_47, za_48, za_49, za_61, za_62, za_63, za_64, za_65, za_70, h20]
    rfl
