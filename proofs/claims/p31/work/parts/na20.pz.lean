def an : Option Nat → Int32
  | none => nM
  | some a => nI a
theorem an_s (b : Nat) : an (some b) = nI b := rfl
def anOK (o : Option Nat) : Prop := ∀ a, o = some a → a < 8
theorem an_n {o : Option Nat} (h : anOK o) : (an o = nM) = (o = none) := by
  cases o with
  | none => exact propext ⟨fun _ => rfl, fun _ => rfl⟩
  | some a =>
    have := h a rfl
    show (nI a = nM) = _
    rw [zm_2 (by omega)]
    exact propext ⟨fun h => h.elim, fun h => (by cases h)⟩
theorem an_eq {o : Option Nat} {x : Nat} (h : anOK o) (hx : x < 2 ^ 30) : (nI x = an o) = (o = some x) := by
  cases o with
  | none =>
    show (nI x = nM) = _
    rw [zm_2 (by omega)]
    exact propext ⟨fun h => h.elim, fun h => (by cases h)⟩
  | some a =>
    have := h a rfl
    show (nI x = nI a) = _
    rw [nI_eq (by omega) (by omega)]
    exact propext ⟨fun h => by rw [h], fun h => (Option.some.inj h).symm⟩
theorem an_eq' {o : Option Nat} {x : Nat} (h : anOK o) (hx : x < 2 ^ 30) : (an o = nI x) = (o = some x) := by
  rw [← an_eq h hx]
  exact propext ⟨fun h => h.symm, fun h => h.symm⟩
theorem an_cases (x : Int32) : (∃ o, anOK o ∧ x = an o) ∨ (Bad x 8 ∧ x ≠ nM) := by
  by_cases h : x = nM
  · exact Or.inl ⟨none, fun a ha => (by cases ha), h⟩
  · rcases i32_cases x 8 with ⟨a, ha, rfl⟩ | hb
    · exact Or.inl ⟨some a, fun b hb => by rw [← Option.some.inj hb]; exact ha, rfl⟩
    · exact Or.inr ⟨hb, h⟩
theorem loa_ok {o : Option Nat} (h : anOK o) : P_X7_isLetterOrAny (an o) = nI 1 := by
  unfold P_X7_isLetterOrAny
  cases o with
  | none =>
    show (if P_X7_isLetter nM = 0 then _ else _) = _
    rw [let_no (Or.inl (by rw [nM_toInt]; omega))]
    rfl
  | some a =>
    show (if P_X7_isLetter (nI a) = 0 then _ else _) = _
    rw [let_ok (h a rfl)]
    rfl
theorem loa_no {x : Int32} (h : Bad x 8) (h2 : x ≠ nM) : P_X7_isLetterOrAny x = nI 0 := by
  unfold P_X7_isLetterOrAny
  rw [let_no h]
  simp (disch := omega) only [zi_t, zi_f, bnd_t, zg_in, zx, nI_ltI, nI_leI, nI_eq, nI_add, pk_mul, pk_sub, mup_s, mup_c, mup_j, mrw_c, if_pos, if_neg, zm_1, zm_2, zm_3, zm_4, zm_5, zm_6, zm_7, zm_8, zm_9, zf_0, zf_1, zf_2, zf_3, zf_4, zf_5, zf_6, zf_7, zf_8, zf_9, zf_10, zf_14, zf_15, zf_16, zf_18, zf_19, zf_20, zf_24, zf_30, zf_31, zf_32, zf_33, zf_99, zf_100, zf_160, zf_200, zf_287, zf_288, zf_300, zf_1000, zf_1023, zf_1024, zf_1600, zf_3840, zf_25600, zf_36000, zf_1000000, zf_1000000000, zf_2000000000, zf_11560, za_1, za_2, za_4, za_5, za_6, za_7, za_8, za_9, za_10, za_11, za_12, za_14, za_15, za_22, za_23, za_25, za_26, za_27, za_28, za_29, za_30, za_31, za_32, za_33, za_34, za_35, za_41, za_42, za_43, za_44, za_45, za_46, za_47, za_48, za_49, za_61, za_62, za_63, za_64, za_65, za_70, h2]
def RuOK (x y z v : Int32) : Prop := ∃ f t l r, f < 8 ∧ t < 9 ∧ anOK l ∧ anOK r ∧ x = nI f ∧ y = nI t ∧ z = an l ∧ v = an r
theorem rule_ok {N f t : Nat} {l r : Option Nat} {m : Mem} (hf : f < 8) (ht : t < 9) (hl : anOK l) (hr : anOK r) : F_X7_needRule N m (nI f) (nI t) (an l) (an r) = some (.inl 0, m) := by
  unfold F_X7_needRule
  simp (disch := omega) only [zi_t, zi_f, bnd_t, zg_in, zx, nI_ltI, nI_leI, nI_eq, nI_add, pk_mul, pk_sub, mup_s, mup_c, mup_j, mrw_c, if_pos, if_neg, zm_1, zm_2, zm_3, zm_4, zm_5, zm_6, zm_7, zm_8, zm_9, zf_0, zf_1, zf_2, zf_3, zf_4, zf_5, zf_6, zf_7, zf_8, zf_9, zf_10, zf_14, zf_15, zf_16, zf_18, zf_19, zf_20, zf_24, zf_30, zf_31, zf_32, zf_33, zf_99, zf_100, zf_160, zf_200, zf_287, zf_288, zf_300, zf_1000, zf_1023, zf_1024, zf_1600, zf_3840, zf_25600, zf_36000, zf_1000000, zf_1000000000, zf_2000000000, zf_11560, za_1, za_2, za_4, za_5, za_6, za_7, za_8, za_9, za_10, za_11, za_12, za_14, za_15, za_22, za_23, za_25, za_26, za_27, za_28, za_29, za_30, za_31, za_32, za_33, za_34, za_35, za_41, za_42, za_43, za_44, za_45, za_46, za_47, za_48, za_49, za_61, za_62, za_63, za_64, za_65, za_70, let_ok, loe_ok, loa_ok hl, loa_ok hr]
theorem plc_cases (x : Int32) : (∃ p, p < 2 ^ 31 ∧ x = nI p) ∨ x < nI 0 := by
  rcases i32_cases x (2 ^ 31) with ⟨p, hp, rfl⟩ | h
  · exact Or.inl ⟨p, hp, rfl⟩
  · right
    rw [Int32.lt_iff_toInt_lt, nI_toInt (by omega)]
    have := x.toInt_lt
    rcases h with h | h <;> omega
theorem plc_ok {N p : Nat} {m : Mem} (hp : p < 2 ^ 31) : F_X7_needPlace N m (nI p) = some (.inl 0, m) := by
  unfold F_X7_needPlace
  simp (disch := omega) only [zi_t, zi_f, bnd_t, zg_in, zx, nI_ltI, nI_leI, nI_eq, nI_add, pk_mul, pk_sub, mup_s, mup_c, mup_j, mrw_c, if_pos, if_neg, zm_1, zm_2, zm_3, zm_4, zm_5, zm_6, zm_7, zm_8, zm_9, zf_0, zf_1, zf_2, zf_3, zf_4, zf_5, zf_6, zf_7, zf_8, zf_9, zf_10, zf_14, zf_15, zf_16, zf_18, zf_19, zf_20, zf_24, zf_30, zf_31, zf_32, zf_33, zf_99, zf_100, zf_160, zf_200, zf_287, zf_288, zf_300, zf_1000, zf_1023, zf_1024, zf_1600, zf_3840, zf_25600, zf_36000, zf_1000000, zf_1000000000, zf_2000000000, zf_11560, za_1, za_2, za_4, za_5, za_6, za_7, za_8, za_9, za_10, za_11, za_12, za_14, za_15, za_22, za_23, za_25, za_26, za_27, za_28, za_29, za_30, za_31, za_32, za_33, za_34, za_35, za_41, za_42, za_43, za_44, za_45, za_46, za_47, za_48, za_49, za_61, za_62, za_63, za_64, za_65, za_70]
theorem plc_no {N : Nat} {x : Int32} {m : Mem} (hx : x < nI 0) : F_X7_needPlace N m x = some (.inr 2, m) := by
  unfold F_X7_needPlace
  have h : ¬ nI 0 ≤ x := by
    rw [Int32.lt_iff_toInt_lt] at hx
    rw [Int32.le_iff_toInt_le]
    omega
  simp (disch := omega) only [zi_t, zi_f, bnd_t, zg_in, zx, nI_ltI, nI_leI, nI_eq, nI_add, pk_mul, pk_sub, mup_s, mup_c, mup_j, mrw_c, if_pos, if_neg, zm_1, zm_2, zm_3, zm_4, zm_5, zm_6, zm_7, zm_8, zm_9, zf_0, zf_1, zf_2, zf_3, zf_4, zf_5, zf_6, zf_7, zf_8, zf_9, zf_10, zf_14, zf_15, zf_16, zf_18, zf_19, zf_20, zf_24, zf_30, zf_31, zf_32, zf_33, zf_99, zf_100, zf_160, zf_200, zf_287, zf_288, zf_300, zf_1000, zf_1023, zf_1024, zf_1600, zf_3840, zf_25600, zf_36000, zf_1000000, zf_1000000000, zf_2000000000, zf_11560, za_1, za_2, za_4, za_5, za_6, za_7, za_8, za_9, za_10, za_11, za_12, za_14, za_15, za_22, za_23, za_25, za_26, za_27, za_28, za_29, za_30, za_31, za_32, za_33, za_34, za_35, za_41, za_42, za_43, za_44, za_45, za_46, za_47, za_48, za_49, za_61, za_62, za_63, za_64, za_65, za_70, h]
def rwA (w : List Nat) (l : Option Nat) (k : Nat) : Bool := decide (l = none) || (decide (0 < k) && decide (l = some (w.getD (k - 1) 0)))
def rwZ (w : List Nat) (r : Option Nat) (k : Nat) : Bool := decide (r = none) || (decide (k + 1 < w.length) && decide (r = some (w.getD (k + 1) 0)))
def rwB (w : List Nat) (f : Nat) (l r : Option Nat) (k : Nat) : Bool := decide (w.getD k 0 = f) && (rwA w l k && rwZ w r k)
def rdG (w : List Nat) (f t : Nat) (l r : Option Nat) (k : Nat) : Nat := if rwB w f l r k = true then t else w.getD k 0
def rdA (g : Nat → Nat) (p : Nat) : Nat → Nat → Nat
  | 0, _ => 8
  | d + 1, k => if g k ≠ 8 ∧ cnt (fun a => decide (g a ≠ 8)) k = p then g k else rdA g p d (k + 1)
theorem cl_rewr {N f k : Nat} {l r : Option Nat} {w : List Nat} {m : Mem} (h1 : m 0 1 = nI w.length) (h2 : ∀ j x, w[j]? = some x → m 1 j = nI x) (hw : w.length ≤ 8) (hl8 : ∀ x, x ∈ w → x < 8) (hf : f < 8) (hl : anOK l) (hr : anOK r) (hk : k < w.length) : F_X7_isRewritten N m (nI k) (nI f) (an l) (an r) = some (bI (rwB w f l r k), m) := by
  have e0 := h2 k _ (wd_at hk)
  have b0 := wd_lt hl8 k
  have hZ : ∀ s : Bool, B_X7_isRewritten_26 N m (nI k) (nI f) (an r) (bI s) = some (bI (decide (w.getD k 0 = f) && (s && rwZ w r k)), m) := by
    intro s
    have hE : ∀ z : Bool, B_X7_isRewritten_62 N m (nI k) (nI f) (bI s) (bI z) = some (bI (decide (w.getD k 0 = f) && (s && z)), m) := by
      intro z
      unfold B_X7_isRewritten_62 B_X7_isRewritten_88 B_X7_isRewritten_89
      by_cases c : w.getD k 0 = f
      · rw [decide_eq_true c]
        cases s <;> cases z <;> simp (disch := omega) only [zi_t, zi_f, bnd_t, zg_in, zx, nI_ltI, nI_leI, nI_eq, nI_add, pk_mul, pk_sub, mup_s, mup_c, mup_j, mrw_c, if_pos, if_neg, zm_1, zm_2, zm_3, zm_4, zm_5, zm_6, zm_7, zm_8, zm_9, zf_0, zf_1, zf_2, zf_3, zf_4, zf_5, zf_6, zf_7, zf_8, zf_9, zf_10, zf_14, zf_15, zf_16, zf_18, zf_19, zf_20, zf_24, zf_30, zf_31, zf_32, zf_33, zf_99, zf_100, zf_160, zf_200, zf_287, zf_288, zf_300, zf_1000, zf_1023, zf_1024, zf_1600, zf_3840, zf_25600, zf_36000, zf_1000000, zf_1000000000, zf_2000000000, zf_11560, za_1, za_2, za_4, za_5, za_6, za_7, za_8, za_9, za_10, za_11, za_12, za_14, za_15, za_22, za_23, za_25, za_26, za_27, za_28, za_29, za_30, za_31, za_32, za_33, za_34, za_35, za_41, za_42, za_43, za_44, za_45, za_46, za_47, za_48, za_49, za_61, za_62, za_63, za_64, za_65, za_70, e0, bI_t, bI_f] <;> rfl
      · rw [decide_eq_false c]
        simp (disch := omega) only [zi_t, zi_f, bnd_t, zg_in, zx, nI_ltI, nI_leI, nI_eq, nI_add, pk_mul, pk_sub, mup_s, mup_c, mup_j, mrw_c, if_pos, if_neg, zm_1, zm_2, zm_3, zm_4, zm_5, zm_6, zm_7, zm_8, zm_9, zf_0, zf_1, zf_2, zf_3, zf_4, zf_5, zf_6, zf_7, zf_8, zf_9, zf_10, zf_14, zf_15, zf_16, zf_18, zf_19, zf_20, zf_24, zf_30, zf_31, zf_32, zf_33, zf_99, zf_100, zf_160, zf_200, zf_287, zf_288, zf_300, zf_1000, zf_1023, zf_1024, zf_1600, zf_3840, zf_25600, zf_36000, zf_1000000, zf_1000000000, zf_2000000000, zf_11560, za_1, za_2, za_4, za_5, za_6, za_7, za_8, za_9, za_10, za_11, za_12, za_14, za_15, za_22, za_23, za_25, za_26, za_27, za_28, za_29, za_30, za_31, za_32, za_33, za_34, za_35, za_41, za_42, za_43, za_44, za_45, za_46, za_47, za_48, za_49, za_61, za_62, za_63, za_64, za_65, za_70, e0]
        rfl
    unfold B_X7_isRewritten_26 B_X7_isRewritten_57 B_X7_isRewritten_61
    unfold rwZ
    cases r with
    | none =>
      simp (disch := omega) only [zi_t, zi_f, bnd_t, zg_in, zx, nI_ltI, nI_leI, nI_eq, nI_add, pk_mul, pk_sub, mup_s, mup_c, mup_j, mrw_c, if_pos, if_neg, zm_1, zm_2, zm_3, zm_4, zm_5, zm_6, zm_7, zm_8, zm_9, zf_0, zf_1, zf_2, zf_3, zf_4, zf_5, zf_6, zf_7, zf_8, zf_9, zf_10, zf_14, zf_15, zf_16, zf_18, zf_19, zf_20, zf_24, zf_30, zf_31, zf_32, zf_33, zf_99, zf_100, zf_160, zf_200, zf_287, zf_288, zf_300, zf_1000, zf_1023, zf_1024, zf_1600, zf_3840, zf_25600, zf_36000, zf_1000000, zf_1000000000, zf_2000000000, zf_11560, za_1, za_2, za_4, za_5, za_6, za_7, za_8, za_9, za_10, za_11, za_12, za_14, za_15, za_22, za_23, za_25, za_26, za_27, za_28, za_29, za_30, za_31, za_32, za_33, za_34, za_35, za_41, za_42, za_43, za_44, za_45, za_46, za_47, za_48, za_49, za_61, za_62, za_63, za_64, za_65, za_70, an_n hr]
      exact hE true
    | some b =>
      have hb := hr b rfl
      rw [decide_eq_false (show ¬ (some b : Option Nat) = none by simp), Bool.false_or]
      by_cases c1 : k + 1 < w.length
      · have e1 := h2 (k + 1) _ (wd_at c1)
        have b1 := wd_lt hl8 (k + 1)
        rw [decide_eq_true c1, Bool.true_and]
        by_cases c2 : some b = some (w.getD (k + 1) 0)
        · rw [decide_eq_true c2]
          have c3 := Option.some.inj c2
          simp (disch := omega) only [zi_t, zi_f, bnd_t, zg_in, zx, nI_ltI, nI_leI, nI_eq, nI_add, pk_mul, pk_sub, mup_s, mup_c, mup_j, mrw_c, if_pos, if_neg, zm_1, zm_2, zm_3, zm_4, zm_5, zm_6, zm_7, zm_8, zm_9, zf_0, zf_1, zf_2, zf_3, zf_4, zf_5, zf_6, zf_7, zf_8, zf_9, zf_10, zf_14, zf_15, zf_16, zf_18, zf_19, zf_20, zf_24, zf_30, zf_31, zf_32, zf_33, zf_99, zf_100, zf_160, zf_200, zf_287, zf_288, zf_300, zf_1000, zf_1023, zf_1024, zf_1600, zf_3840, zf_25600, zf_36000, zf_1000000, zf_1000000000, zf_2000000000, zf_11560, za_1, za_2, za_4, za_5, za_6, za_7, za_8, za_9, za_10, za_11, za_12, za_14, za_15, za_22, za_23, za_25, za_26, za_27, za_28, za_29, za_30, za_31, za_32, za_33, za_34, za_35, za_41, za_42, za_43, za_44, za_45, za_46, za_47, za_48, za_49, za_61, za_62, za_63, za_64, za_65, za_70, an_s, h1, e1]
          exact hE true
        · rw [decide_eq_false c2]
          have c3 : ¬ w.getD (k + 1) 0 = b := fun e => c2 (by rw [e])
          simp (disch := omega) only [zi_t, zi_f, bnd_t, zg_in, zx, nI_ltI, nI_leI, nI_eq, nI_add, pk_mul, pk_sub, mup_s, mup_c, mup_j, mrw_c, if_pos, if_neg, zm_1, zm_2, zm_3, zm_4, zm_5, zm_6, zm_7, zm_8, zm_9, zf_0, zf_1, zf_2, zf_3, zf_4, zf_5, zf_6, zf_7, zf_8, zf_9, zf_10, zf_14, zf_15, zf_16, zf_18, zf_19, zf_20, zf_24, zf_30, zf_31, zf_32, zf_33, zf_99, zf_100, zf_160, zf_200, zf_287, zf_288, zf_300, zf_1000, zf_1023, zf_1024, zf_1600, zf_3840, zf_25600, zf_36000, zf_1000000, zf_1000000000, zf_2000000000, zf_11560, za_1, za_2, za_4, za_5, za_6, za_7, za_8, za_9, za_10, za_11, za_12, za_14, za_15, za_22, za_23, za_25, za_26, za_27, za_28, za_29, za_30, za_31, za_32, za_33, za_34, za_35, za_41, za_42, za_43, za_44, za_45, za_46, za_47, za_48, za_49, za_61, za_62, za_63, za_64, za_65, za_70, an_s, h1, e1]
          exact hE false
      · rw [decide_eq_false c1, Bool.false_and]
        simp (disch := omega) only [zi_t, zi_f, bnd_t, zg_in, zx, nI_ltI, nI_leI, nI_eq, nI_add, pk_mul, pk_sub, mup_s, mup_c, mup_j, mrw_c, if_pos, if_neg, zm_1, zm_2, zm_3, zm_4, zm_5, zm_6, zm_7, zm_8, zm_9, zf_0, zf_1, zf_2, zf_3, zf_4, zf_5, zf_6, zf_7, zf_8, zf_9, zf_10, zf_14, zf_15, zf_16, zf_18, zf_19, zf_20, zf_24, zf_30, zf_31, zf_32, zf_33, zf_99, zf_100, zf_160, zf_200, zf_287, zf_288, zf_300, zf_1000, zf_1023, zf_1024, zf_1600, zf_3840, zf_25600, zf_36000, zf_1000000, zf_1000000000, zf_2000000000, zf_11560, za_1, za_2, za_4, za_5, za_6, za_7, za_8, za_9, za_10, za_11, za_12, za_14, za_15, za_22, za_23, za_25, za_26, za_27, za_28, za_29, za_30, za_31, za_32, za_33, za_34, za_35, za_41, za_42, za_43, za_44, za_45, za_46, za_47, za_48, za_49, za_61, za_62, za_63, za_64, za_65, za_70, an_s, h1]
        exact hE false
  unfold F_X7_isRewritten B_X7_isRewritten_21 B_X7_isRewritten_25
  unfold rwB rwA
  cases l with
  | none =>
    simp (disch := omega) only [zi_t, zi_f, bnd_t, zg_in, zx, nI_ltI, nI_leI, nI_eq, nI_add, pk_mul, pk_sub, mup_s, mup_c, mup_j, mrw_c, if_pos, if_neg, zm_1, zm_2, zm_3, zm_4, zm_5, zm_6, zm_7, zm_8, zm_9, zf_0, zf_1, zf_2, zf_3, zf_4, zf_5, zf_6, zf_7, zf_8, zf_9, zf_10, zf_14, zf_15, zf_16, zf_18, zf_19, zf_20, zf_24, zf_30, zf_31, zf_32, zf_33, zf_99, zf_100, zf_160, zf_200, zf_287, zf_288, zf_300, zf_1000, zf_1023, zf_1024, zf_1600, zf_3840, zf_25600, zf_36000, zf_1000000, zf_1000000000, zf_2000000000, zf_11560, za_1, za_2, za_4, za_5, za_6, za_7, za_8, za_9, za_10, za_11, za_12, za_14, za_15, za_22, za_23, za_25, za_26, za_27, za_28, za_29, za_30, za_31, za_32, za_33, za_34, za_35, za_41, za_42, za_43, za_44, za_45, za_46, za_47, za_48, za_49, za_61, za_62, za_63, za_64, za_65, za_70, an_n hl]
    exact hZ true
  | some b =>
    have hb := hl b rfl
    rw [decide_eq_false (show ¬ (some b : Option Nat) = none by simp), Bool.false_or]
    by_cases c1 : 0 < k
    · have e1 := h2 (k - 1) _ (wd_at (by omega : k - 1 < w.length))
      have b1 := wd_lt hl8 (k - 1)
      rw [decide_eq_true c1, Bool.true_and]
      by_cases c2 : some b = some (w.getD (k - 1) 0)
      · rw [decide_eq_true c2]
        have c3 := Option.some.inj c2
        simp (disch := omega) only [zi_t, zi_f, bnd_t, zg_in, zx, nI_ltI, nI_leI, nI_eq, nI_add, pk_mul, pk_sub, mup_s, mup_c, mup_j, mrw_c, if_pos, if_neg, zm_1, zm_2, zm_3, zm_4, zm_5, zm_6, zm_7, zm_8, zm_9, zf_0, zf_1, zf_2, zf_3, zf_4, zf_5, zf_6, zf_7, zf_8, zf_9, zf_10, zf_14, zf_15, zf_16, zf_18, zf_19, zf_20, zf_24, zf_30, zf_31, zf_32, zf_33, zf_99, zf_100, zf_160, zf_200, zf_287, zf_288, zf_300, zf_1000, zf_1023, zf_1024, zf_1600, zf_3840, zf_25600, zf_36000, zf_1000000, zf_1000000000, zf_2000000000, zf_11560, za_1, za_2, za_4, za_5, za_6, za_7, za_8, za_9, za_10, za_11, za_12, za_14, za_15, za_22, za_23, za_25, za_26, za_27, za_28, za_29, za_30, za_31, za_32, za_33, za_34, za_35, za_41, za_42, za_43, za_44, za_45, za_46, za_47, za_48, za_49, za_61, za_62, za_63, za_64, za_65, za_70, an_s, e1]
        exact hZ true
      · rw [decide_eq_false c2]
        have c3 : ¬ w.getD (k - 1) 0 = b := fun e => c2 (by rw [e])
        simp (disch := omega) only [zi_t, zi_f, bnd_t, zg_in, zx, nI_ltI, nI_leI, nI_eq, nI_add, pk_mul, pk_sub, mup_s, mup_c, mup_j, mrw_c, if_pos, if_neg, zm_1, zm_2, zm_3, zm_4, zm_5, zm_6, zm_7, zm_8, zm_9, zf_0, zf_1, zf_2, zf_3, zf_4, zf_5, zf_6, zf_7, zf_8, zf_9, zf_10, zf_14, zf_15, zf_16, zf_18, zf_19, zf_20, zf_24, zf_30, zf_31, zf_32, zf_33, zf_99, zf_100, zf_160, zf_200, zf_287, zf_288, zf_300, zf_1000, zf_1023, zf_1024, zf_1600, zf_3840, zf_25600, zf_36000, zf_1000000, zf_1000000000, zf_2000000000, zf_11560, za_1, za_2, za_4, za_5, za_6, za_7, za_8, za_9, za_10, za_11, za_12, za_14, za_15, za_22, za_23, za_25, za_26, za_27, za_28, za_29, za_30, za_31, za_32, za_33, za_34, za_35, za_41, za_42, za_43, za_44, za_45, za_46, za_47, za_48, za_49, za_61, za_62, za_63, za_64, za_65, za_70, an_s, e1]
        exact hZ false
    · rw [decide_eq_false c1, Bool.false_and]
      simp (disch := omega) only [zi_t, zi_f, bnd_t, zg_in, zx, nI_ltI, nI_leI, nI_eq, nI_add, pk_mul, pk_sub, mup_s, mup_c, mup_j, mrw_c, if_pos, if_neg, zm_1, zm_2, zm_3, zm_4, zm_5, zm_6, zm_7, zm_8, zm_9, zf_0, zf_1, zf_2, zf_3, zf_4, zf_5, zf_6, zf_7, zf_8, zf_9, zf_10, zf_14, zf_15, zf_16, zf_18, zf_19, zf_20, zf_24, zf_30, zf_31, zf_32, zf_33, zf_99, zf_100, zf_160, zf_200, zf_287, zf_288, zf_300, zf_1000, zf_1023, zf_1024, zf_1600, zf_3840, zf_25600, zf_36000, zf_1000000, zf_1000000000, zf_2000000000, zf_11560, za_1, za_2, za_4, za_5, za_6, za_7, za_8, za_9, za_10, za_11, za_12, za_14, za_15, za_22, za_23, za_25, za_26, za_27, za_28, za_29, za_30, za_31, za_32, za_33, za_34, za_35, za_41, za_42, za_43, za_44, za_45, za_46, za_47, za_48, za_49, za_61, za_62, za_63, za_64, za_65, za_70, an_s]
      exact hZ false
