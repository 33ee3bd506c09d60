def tb (x : Int32) (s : Nat) : Bool := x.toBitVec.getLsbD s
theorem tb_ext {x y : Int32} (h : ∀ s, s < 32 → tb x s = tb y s) : x = y := Int32.toBitVec_inj.mp (BitVec.eq_of_getLsbD_eq (fun i hi => h i hi))
theorem tb_or (x y : Int32) (s : Nat) : tb (x ||| y) s = (tb x s || tb y s) := by
  show (x ||| y).toBitVec.getLsbD s = _
  rw [Int32.toBitVec_or, BitVec.getLsbD_or]; rfl
theorem tb_and (x y : Int32) (s : Nat) : tb (x &&& y) s = (tb x s && tb y s) := by
  show (x &&& y).toBitVec.getLsbD s = _
  rw [Int32.toBitVec_and, BitVec.getLsbD_and]; rfl
theorem tb_0 (s : Nat) : tb (nI 0) s = false := by
  show (0#32).getLsbD s = false
  exact BitVec.getLsbD_zero
theorem tb_1 : ∀ s, s < 32 → tb (nI 1) s = decide (s = 0) := by decide +kernel
theorem sh_amt : ∀ s, s < 32 → ((nI s &&& 31).toBitVec.smod 32).toNat = s := by decide +kernel
theorem ush_amt : ∀ s, s < 32 → (((nI s).toUInt32 &&& Int32.toUInt32 31).toBitVec % 32).toNat = s := by decide +kernel
theorem tb_shl : ∀ s, s < 32 → ∀ i, i < 32 → tb (q_shl (nI 1) (nI s)) i = decide (i = s) := by decide +kernel
theorem bit_pick {x y : Int32} {s : Nat} (h : tb y 0 = tb x s) : (y &&& nI 1 = nI 1) = (tb x s = true) := by
  have e : (y &&& nI 1) = if tb x s = true then nI 1 else nI 0 := by
    apply tb_ext
    intro i hi
    rw [tb_and, tb_1 i hi]
    by_cases hi0 : i = 0
    · rw [hi0, h]
      cases tb x s
      · rfl
      · rfl
    · rw [decide_eq_false hi0, Bool.and_false]
      split
      · rw [tb_1 i hi, decide_eq_false hi0]
      · rw [tb_0]
  rw [e]
  cases tb x s
  · exact propext ⟨fun h => absurd h (by decide), fun h => (by cases h)⟩
  · exact propext ⟨fun _ => rfl, fun _ => rfl⟩
theorem bit_ushr {x : Int32} {s : Nat} (hs : s < 32) : (q_ushr x (nI s) &&& nI 1 = nI 1) = (tb x s = true) := by
  apply bit_pick
  have e : (q_ushr x (nI s)).toBitVec = x.toBitVec >>> s := by
    have h2 := ush_amt s hs
    have h3 : (q_ushr x (nI s)).toBitVec = x.toBitVec >>> (((nI s).toUInt32 &&& Int32.toUInt32 31).toBitVec % 32).toNat := UInt32.toBitVec_shiftRight _ _
    rw [h3, h2]
  show (q_ushr x (nI s)).toBitVec.getLsbD 0 = _
  rw [e, BitVec.getLsbD_ushiftRight]; rfl
theorem bit_shr {x : Int32} {s : Nat} (hs : s < 32) : (q_shr x (nI s) &&& nI 1 = nI 1) = (tb x s = true) := by
  apply bit_pick
  show (x.toBitVec.sshiftRight ((nI s &&& 31).toBitVec.smod 32).toNat).getLsbD 0 = _
  rw [sh_amt s hs, BitVec.getLsbD_sshiftRight]
  simp [hs]
  rfl
theorem holds_t {x : Int32} {s : Nat} (hs : s < 32) : P_X7_holds x (nI s) = bI (tb x s) := by
  unfold P_X7_holds
  have e := bit_ushr (x := x) hs
  simp (disch := omega) only [zi_t, zi_f, bnd_t, zg_in, zx, nI_ltI, nI_leI, nI_eq, nI_add, pk_mul, pk_sub, mup_s, mup_c, mup_j, mrw_c, if_pos, if_neg, zm_1, zm_2, zm_3, zm_4, zm_5, zm_6, zm_7, zm_8, zm_9, zf_0, zf_1, zf_2, zf_3, zf_4, zf_5, zf_6, zf_7, zf_8, zf_9, zf_10, zf_14, zf_15, zf_16, zf_18, zf_19, zf_20, zf_24, zf_30, zf_31, zf_32, zf_33, zf_99, zf_100, zf_160, zf_200, zf_287, zf_288, zf_300, zf_1000, zf_1023, zf_1024, zf_1600, zf_3840, zf_25600, zf_36000, zf_1000000, zf_1000000000, zf_2000000000, zf_11560, za_1, za_2, za_4, za_5, za_6, za_7, za_8, za_9, za_10, za_11, za_12, za_14, za_15, za_22, za_23, za_25, za_26, za_27, za_28, za_29, za_30, za_31, za_32, za_33, za_34, za_35, za_41, za_42, za_43, za_44, za_45, za_46, za_47, za_48, za_49, za_61, za_62, za_63, za_64, za_65, za_70, e]
  cases tb x s <;> rfl
theorem tb_eB {f : Nat → Bool} : ∀ {n : Nat}, n ≤ 32 → ∀ s, s < 32 → tb (eB f n) s = (decide (s < n) && f s)
  | 0, _, s, hs => by rw [eB, tb_0]; rfl
  | n + 1, hn, s, hs => by
    rw [eB]
    have ih := tb_eB (f := f) (n := n) (by omega) s hs
    by_cases e : s = n
    · subst e
      rw [decide_eq_true (by omega : s < s + 1), Bool.true_and]
      split
      · rename_i h
        rw [tb_or, tb_shl s (by omega) s hs, decide_eq_true rfl, Bool.or_true, h]
      · rename_i h
        rw [ih, decide_eq_false (by omega), Bool.false_and]
        cases hf : f s
        · rfl
        · exact absurd hf h
    · have e2 : decide (s < n + 1) = decide (s < n) := by
        by_cases h : s < n
        · rw [decide_eq_true h, decide_eq_true (by omega)]
        · rw [decide_eq_false h, decide_eq_false (by omega)]
      rw [e2, ← ih]
      split
      · rw [tb_or, tb_shl n (by omega) s hs, decide_eq_false e, Bool.or_false]
      · rfl
theorem tb_eBin {f : Nat → Bool} {n s : Nat} (hn : n ≤ 32) (hs : s < n) : tb (eB f n) s = f s := by
  rw [tb_eB hn s (by omega), decide_eq_true hs, Bool.true_and]
theorem and_ne {x y : Int32} : (x &&& y = nI 0) ↔ ∀ s, s < 32 → ¬ (tb x s = true ∧ tb y s = true) := by
  constructor
  · rintro h s hs ⟨a, b⟩
    have := tb_and x y s
    rw [h, tb_0, a, b] at this
    cases this
  · intro h
    apply tb_ext
    intro s hs
    rw [tb_and, tb_0]
    cases a : tb x s with
    | false => rfl
    | true =>
      cases b : tb y s with
      | false => rfl
      | true => exact absurd ⟨a, b⟩ (h s hs)
theorem bI_eq0 (b : Bool) : (bI b = nI 0) = (b = false) := by
  cases b
  · exact propext ⟨fun _ => rfl, fun _ => rfl⟩
  · exact propext ⟨fun h => absurd h (by decide), fun h => (by cases h)⟩
theorem bI_isb' (b : Bool) : isb (bI b) = true := by cases b <;> rfl
theorem alen_hi {k : Nat} (h : 200 ≤ k) : alen k = 160 := if_pos h
def shA (b : Nat) (L : ArL) : ArL := L.map (fun q => (pkA (b + fr q.1) (upr q.1) (lwr q.1) (b + too q.1), q.2))
def ldA (f : Nat → Bool) (b t n : Nat) : ArL := ((List.range n).filter f).map (fun s => (pkA (b + s) 8 8 t, 0))
def shE (E : Nat → Bool) (f : Nat → Bool) (b n : Nat) (s : Nat) : Bool := E s || (decide (b ≤ s) && decide (s < b + n) && f (s - b))
theorem ldA_s {f : Nat → Bool} {b t n : Nat} : ldA f b t (n + 1) = if f n = true then ldA f b t n ++ [(pkA (b + n) 8 8 t, 0)] else ldA f b t n := by
  unfold ldA
  rw [List.range_succ, List.filter_append, List.map_append]
  cases h : f n with
  | true => rw [if_pos rfl]; simp [h]
  | false => rw [if_neg (by simp)]; simp [h]
theorem ldA_len (f : Nat → Bool) (b t n : Nat) : (ldA f b t n).length ≤ n := by
  unfold ldA
  rw [List.length_map]
  have := List.length_filter_le f (List.range n)
  rw [List.length_range] at this
  exact this
theorem shE_s {E f : Nat → Bool} {b n : Nat} : shE E f b (n + 1) = if f n = true then (fun x => shE E f b n x || decide (x = b + n)) else shE E f b n := by
  funext s
  unfold shE
  by_cases e : s = b + n
  · subst e
    have h1 : decide (b ≤ b + n) = true := decide_eq_true (by omega)
    have h2 : decide (b + n < b + (n + 1)) = true := decide_eq_true (by omega)
    have h3 : decide (b + n < b + n) = false := decide_eq_false (by omega)
    have h4 : b + n - b = n := by omega
    cases h : f n with
    | true => rw [if_pos rfl, h1, h2, h4, h]; simp
    | false => rw [if_neg (by simp), h1, h2, h3, h4, h]; simp
  · have h2 : decide (s < b + (n + 1)) = decide (s < b + n) := by
      by_cases h : s < b + n
      · rw [decide_eq_true h, decide_eq_true (by omega)]
      · rw [decide_eq_false h, decide_eq_false (by omega)]
    rw [h2]
    split
    · show _ = (E s || decide (b ≤ s) && decide (s < b + n) && f (s - b) || decide (s = b + n))
      rw [decide_eq_false e, Bool.or_false]
    · rfl
theorem shE_0 {E f : Nat → Bool} {b : Nat} : shE E f b 0 = E := by
  funext s
  unfold shE
  have h : (decide (b ≤ s) && decide (s < b + 0)) = false := by
    by_cases hb : b ≤ s
    · rw [decide_eq_false (by omega : ¬ s < b + 0), Bool.and_false]
    · rw [decide_eq_false hb, Bool.false_and]
  rw [h]; simp
theorem dr_addArcsOf {N n st a b k : Nat} {m : Mem} {E : Nat → Bool} {D L : ArL} (hN : 30000 < N) (h : DR m n st E D) (hn : n ≤ 1024) (ha : 200 ≤ a) (hL : AR m (a + 1) L) (hok : DOK k L) (hk : b + k ≤ n) (hl : L.length ≤ 160) (hD : D.length + L.length ≤ 25600) :
    ∃ m', F_X1_addArcsOf N m a (nI b) = some m' ∧ DR m' n st E (D ++ shA b L) ∧ Off 3 7 m m' := by
  unfold F_X1_addArcsOf
  refine loopF (fun f (m : Mem) i => L_X1_addArcsOf_2 N f m a (nI b) (nI i)) L.length (fun i m' => DR m' n st E (D ++ shA b (L.take i)) ∧ Off 3 7 m m') (fun o => ∃ m', o = some m' ∧ DR m' n st E (D ++ shA b L) ∧ Off 3 7 m m') ?_ ?_ N 0 m (Nat.zero_le _) ⟨by show DR m n st E (D ++ []); rw [List.append_nil]; exact h, Off.rf⟩ (by omega)
  · rintro f i m1 hi ⟨h1, h2⟩
    obtain ⟨q, hq⟩ : ∃ q, L[i]? = some q := ⟨_, List.getElem?_eq_getElem hi⟩
    have hqm := hok q (List.mem_of_getElem? hq)
    have hq1 := hqm.1
    have hq2 : q.1 / 262144 < k := hqm.2.1
    have hq3 : q.1 % 1024 < k := hqm.2.2.1
    have hq4 : q.1 / 16384 % 16 ≤ 8 := hqm.2.2.2.1
    have hq5 : q.1 / 1024 % 16 ≤ 8 := hqm.2.2.2.2.1
    have e1 := (h2.at (k := a + 1) (by omega) 2).trans hL.1
    have e2 := (h2.at (k := a + 1 + 1) (by omega) i).trans (hL.2 i q hq).1
    have e3 := (h2.at (k := a + 1 + 2) (by omega) i).trans (hL.2 i q hq).2
    obtain ⟨m2, g1, g2, g3⟩ := dr_addArc (N := N) (s := b + q.1 / 262144) (u := q.1 / 16384 % 16) (l := q.1 / 1024 % 16) (t := b + q.1 % 1024) (c := q.2) h1 hn (by rw [List.length_append, shA, List.length_map, List.length_take]; omega) (by omega) hq4 hq5 (by omega)
    refine Or.inl ⟨m2, ⟨?_, h2.tr g3⟩, ?_⟩
    · have : shA b (L.take (i + 1)) = shA b (L.take i) ++ [(pkA (b + fr q.1) (upr q.1) (lwr q.1) (b + too q.1), q.2)] := by
        unfold shA
        rw [List.take_add_one, hq, List.map_append]; rfl
      rw [this, ← List.append_assoc]
      exact g2
    · show S_X1_addArcsOf_2 N (L_X1_addArcsOf_2 N f) m1 a (nI b) (nI i) = _
      unfold S_X1_addArcsOf_2
      simp (disch := omega) only [zi_t, zi_f, bnd_t, zg_in, zx, nI_ltI, nI_leI, nI_eq, nI_add, pk_mul, pk_sub, mup_s, mup_c, mup_j, mrw_c, if_pos, if_neg, zm_1, zm_2, zm_3, zm_4, zm_5, zm_6, zm_7, zm_8, zm_9, zf_0, zf_1, zf_2, zf_3, zf_4, zf_5, zf_6, zf_7, zf_8, zf_9, zf_10, zf_14, zf_15, zf_16, zf_18, zf_19, zf_20, zf_24, zf_30, zf_31, zf_32, zf_33, zf_99, zf_100, zf_160, zf_200, zf_287, zf_288, zf_300, zf_1000, zf_1023, zf_1024, zf_1600, zf_3840, zf_25600, zf_36000, zf_1000000, zf_1000000000, zf_2000000000, zf_11560, za_1, za_2, za_4, za_5, za_6, za_7, za_8, za_9, za_10, za_11, za_12, za_14, za_15, za_22, za_23, za_25, za_26, za_27, za_28, za_29, za_30, za_31, za_32, za_33, za_34, za_35, za_41, za_42, za_43, za_44, za_45, za_46, za_47, za_48, za_49, za_61, za_62, za_63, za_64, za_65, za_70, e1, e2, e3, alen_hi, pk_from, pk_to, pk_upper, pk_lower]
      rw [calv_t g1]
  · rintro f m1 ⟨h1, h2⟩
    rw [List.take_of_length_le (Nat.le_refl _)] at h1
    have e1 := (h2.at (k := a + 1) (by omega) 2).trans hL.1
    refine ⟨m1, ?_, h1, h2⟩
    show S_X1_addArcsOf_2 N (L_X1_addArcsOf_2 N f) m1 a (nI b) (nI L.length) = _
    unfold S_X1_addArcsOf_2
    simp (disch := omega) only [zi_t, zi_f, bnd_t, zg_in, zx, nI_ltI, nI_leI, nI_eq, nI_add, pk_mul, pk_sub, mup_s, mup_c, mup_j, mrw_c, if_pos, if_neg, zm_1, zm_2, zm_3, zm_4, zm_5, zm_6, zm_7, zm_8, zm_9, zf_0, zf_1, zf_2, zf_3, zf_4, zf_5, zf_6, zf_7, zf_8, zf_9, zf_10, zf_14, zf_15, zf_16, zf_18, zf_19, zf_20, zf_24, zf_30, zf_31, zf_32, zf_33, zf_99, zf_100, zf_160, zf_200, zf_287, zf_288, zf_300, zf_1000, zf_1023, zf_1024, zf_1600, zf_3840, zf_25600, zf_36000, zf_1000000, zf_1000000000, zf_2000000000, zf_11560, za_1, za_2, za_4, za_5, za_6, za_7, za_8, za_9, za_10, za_11, za_12, za_14, za_15, za_22, za_23, za_25, za_26, za_27, za_28, za_29, za_30, za_31, za_32, za_33, za_34, za_35, za_41, za_42, za_43, za_44, za_45, za_46, za_47, za_48, za_49, za_61, za_62, za_63, za_64, za_65, za_70, e1]
theorem dr_lead {N n st a b k t : Nat} {m : Mem} {E fE : Nat → Bool} {D : ArL} (hN : 30000 < N) (h : DR m n st E D) (hn : n ≤ 1024) (ha : 200 ≤ a) (h1 : m a 1 = nI k) (h2 : m a 2 = eB fE k) (hk : k ≤ 32) (hb : b + k ≤ n) (ht : t < n) (hD : D.length + k ≤ 25600) :
    ∃ m', F_X1_leadFromEndsOf N m a (nI b) (nI t) = some m' ∧ DR m' n st E (D ++ ldA fE b t k) ∧ Off 3 7 m m' := by
  unfold F_X1_leadFromEndsOf
  refine loopF (fun f (m : Mem) i => L_X1_leadFromEndsOf_3 N f m a (nI b) (nI t) (nI i)) k (fun i m' => DR m' n st E (D ++ ldA fE b t i) ∧ Off 3 7 m m') (fun o => ∃ m', o = some m' ∧ DR m' n st E (D ++ ldA fE b t k) ∧ Off 3 7 m m') ?_ ?_ N 0 m (Nat.zero_le _) ⟨by show DR m n st E (D ++ []); rw [List.append_nil]; exact h, Off.rf⟩ (by omega)
  · rintro f i m1 hi ⟨g1, g2⟩
    have e1 := (g2.at (k := a) (by omega) 1).trans h1
    have e2 := (g2.at (k := a) (by omega) 2).trans h2
    have e4 := holds_t (x := eB fE k) (s := i) (by omega)
    rw [tb_eBin hk hi] at e4
    cases hf : fE i with
    | true =>
      obtain ⟨m2, p1, p2, p3⟩ := dr_addArc (N := N) (s := b + i) (u := 8) (l := 8) (t := t) (c := 0) g1 hn (by rw [List.length_append]; have := ldA_len fE b t i; omega) (by omega) (by omega) (by omega) ht
      refine Or.inl ⟨m2, ⟨?_, g2.tr p3⟩, ?_⟩
      · rw [ldA_s, hf, if_pos rfl, ← List.append_assoc]; exact p2
      · show S_X1_leadFromEndsOf_3 N (L_X1_leadFromEndsOf_3 N f) m1 a (nI b) (nI t) (nI i) = _
        unfold S_X1_leadFromEndsOf_3 B_X1_leadFromEndsOf_38
        simp (disch := omega) only [zi_t, zi_f, bnd_t, zg_in, zx, nI_ltI, nI_leI, nI_eq, nI_add, pk_mul, pk_sub, mup_s, mup_c, mup_j, mrw_c, if_pos, if_neg, zm_1, zm_2, zm_3, zm_4, zm_5, zm_6, zm_7, zm_8, zm_9, zf_0, zf_1, zf_2, zf_3, zf_4, zf_5, zf_6, zf_7, zf_8, zf_9, zf_10, zf_14, zf_15, zf_16, zf_18, zf_19, zf_20, zf_24, zf_30, zf_31, zf_32, zf_33, zf_99, zf_100, zf_160, zf_200, zf_287, zf_288, zf_300, zf_1000, zf_1023, zf_1024, zf_1600, zf_3840, zf_25600, zf_36000, zf_1000000, zf_1000000000, zf_2000000000, zf_11560, za_1, za_2, za_4, za_5, za_6, za_7, za_8, za_9, za_10, za_11, za_12, za_14, za_15, za_22, za_23, za_25, za_26, za_27, za_28, za_29, za_30, za_31, za_32, za_33, za_34, za_35, za_41, za_42, za_43, za_44, za_45, za_46, za_47, za_48, za_49, za_61, za_62, za_63, za_64, za_65, za_70, e1, e2, e4, hf, bI_t]
        rw [calv_t p1]
    | false =>
      refine Or.inl ⟨m1, ⟨by rw [ldA_s, hf, if_neg (by simp)]; exact g1, g2⟩, ?_⟩
      show S_X1_leadFromEndsOf_3 N (L_X1_leadFromEndsOf_3 N f) m1 a (nI b) (nI t) (nI i) = _
      unfold S_X1_leadFromEndsOf_3 B_X1_leadFromEndsOf_38
      simp (disch := omega) only [zi_t, zi_f, bnd_t, zg_in, zx, nI_ltI, nI_leI, nI_eq, nI_add, pk_mul, pk_sub, mup_s, mup_c, mup_j, mrw_c, if_pos, if_neg, zm_1, zm_2, zm_3, zm_4, zm_5, zm_6, zm_7, zm_8, zm_9, zf_0, zf_1, zf_2, zf_3, zf_4, zf_5, zf_6, zf_7, zf_8, zf_9, zf_10, zf_14, zf_15, zf_16, zf_18, zf_19, zf_20, zf_24, zf_30, zf_31, zf_32, zf_33, zf_99, zf_100, zf_160, zf_200, zf_287, zf_288, zf_300, zf_1000, zf_1023, zf_1024, zf_1600, zf_3840, zf_25600, zf_36000, zf_1000000, zf_1000000000, zf_2000000000, zf_11560, za_1, za_2, za_4, za_5, za_6, za_7, za_8, za_9, za_10, za_11, za_12, za_14, za_15, za_22, za_23, za_25, za_26, za_27, za_28, za_29, za_30, za_31, za_32, za_33, za_34, za_35, za_41, za_42, za_43, za_44, za_45, za_46, za_47, za_48, za_49, za_61, za_62, za_63, za_64, za_65, za_70, e1, e2, e4, hf, bI_f]
  · rintro f m1 ⟨g1, g2⟩
    have e1 := (g2.at (k := a) (by omega) 1).trans h1
    refine ⟨m1, ?_, g1, g2⟩
    show S_X1_leadFromEndsOf_3 N (L_X1_leadFromEndsOf_3 N f) m1 a (nI b) (nI t) (nI k) = _
    unfold S_X1_leadFromEndsOf_3
    simp (disch := omega) only [zi_t, zi_f, bnd_t, zg_in, zx, nI_ltI, nI_leI, nI_eq, nI_add, pk_mul, pk_sub, mup_s, mup_c, mup_j, mrw_c, if_pos, if_neg, zm_1, zm_2, zm_3, zm_4, zm_5, zm_6, zm_7, zm_8, zm_9, zf_0, zf_1, zf_2, zf_3, zf_4, zf_5, zf_6, zf_7, zf_8, zf_9, zf_10, zf_14, zf_15, zf_16, zf_18, zf_19, zf_20, zf_24, zf_30, zf_31, zf_32, zf_33, zf_99, zf_100, zf_160, zf_200, zf_287, zf_288, zf_300, zf_1000, zf_1023, zf_1024, zf_1600, zf_3840, zf_25600, zf_36000, zf_1000000, zf_1000000000, zf_2000000000, zf_11560, za_1, za_2, za_4, za_5, za_6, za_7, za_8, za_9, za_10, za_11, za_12, za_14, za_15, za_22, za_23, za_25, za_26, za_27, za_28, za_29, za_30, za_31, za_32, za_33, za_34, za_35, za_41, za_42, za_43, za_44, za_45, za_46, za_47, za_48, za_49, za_61, za_62, za_63, za_64, za_65, za_70, e1]
theorem dr_addEndsOf {N n st a b k : Nat} {m : Mem} {E fE : Nat → Bool} {D : ArL} (hN : 30000 < N) (h : DR m n st E D) (hn : n ≤ 1024) (ha : 200 ≤ a) (h1 : m a 1 = nI k) (h2 : m a 2 = eB fE k) (hk : k ≤ 32) (hb : b + k ≤ n) :
    ∃ m', F_X1_addEndsOf N m a (nI b) = some m' ∧ DR m' n st (shE E fE b k) D ∧ Off 3 7 m m' := by
  unfold F_X1_addEndsOf
  refine loopF (fun f (m : Mem) i => L_X1_addEndsOf_2 N f m a (nI b) (nI i)) k (fun i m' => DR m' n st (shE E fE b i) D ∧ Off 3 7 m m') (fun o => ∃ m', o = some m' ∧ DR m' n st (shE E fE b k) D ∧ Off 3 7 m m') ?_ ?_ N 0 m (Nat.zero_le _) ⟨by rw [shE_0]; exact h, Off.rf⟩ (by omega)
  · rintro f i m1 hi ⟨g1, g2⟩
    have e1 := (g2.at (k := a) (by omega) 1).trans h1
    have e2 := (g2.at (k := a) (by omega) 2).trans h2
    have e4 := holds_t (x := eB fE k) (s := i) (by omega)
    rw [tb_eBin hk hi] at e4
    cases hf : fE i with
    | true =>
      obtain ⟨m2, p1, p2, p3⟩ := dr_addEnd (N := N) (s := b + i) g1 hn (by omega)
      refine Or.inl ⟨m2, ⟨?_, g2.tr p3⟩, ?_⟩
      · rw [shE_s, hf, if_pos rfl]; exact p2
      · show S_X1_addEndsOf_2 N (L_X1_addEndsOf_2 N f) m1 a (nI b) (nI i) = _
        unfold S_X1_addEndsOf_2 B_X1_addEndsOf_28
        simp (disch := omega) only [zi_t, zi_f, bnd_t, zg_in, zx, nI_ltI, nI_leI, nI_eq, nI_add, pk_mul, pk_sub, mup_s, mup_c, mup_j, mrw_c, if_pos, if_neg, zm_1, zm_2, zm_3, zm_4, zm_5, zm_6, zm_7, zm_8, zm_9, zf_0, zf_1, zf_2, zf_3, zf_4, zf_5, zf_6, zf_7, zf_8, zf_9, zf_10, zf_14, zf_15, zf_16, zf_18, zf_19, zf_20, zf_24, zf_30, zf_31, zf_32, zf_33, zf_99, zf_100, zf_160, zf_200, zf_287, zf_288, zf_300, zf_1000, zf_1023, zf_1024, zf_1600, zf_3840, zf_25600, zf_36000, zf_1000000, zf_1000000000, zf_2000000000, zf_11560, za_1, za_2, za_4, za_5, za_6, za_7, za_8, za_9, za_10, za_11, za_12, za_14, za_15, za_22, za_23, za_25, za_26, za_27, za_28, za_29, za_30, za_31, za_32, za_33, za_34, za_35, za_41, za_42, za_43, za_44, za_45, za_46, za_47, za_48, za_49, za_61, za_62, za_63, za_64, za_65, za_70, e1, e2, e4, hf, bI_t]
        rw [calv_t p1]
    | false =>
      refine Or.inl ⟨m1, ⟨by rw [shE_s, hf, if_neg (by simp)]; exact g1, g2⟩, ?_⟩
      show S_X1_addEndsOf_2 N (L_X1_addEndsOf_2 N f) m1 a (nI b) (nI i) = _
      unfold S_X1_addEndsOf_2 B_X1_addEndsOf_28
      simp (disch := omega) only [zi_t, zi_f, bnd_t, zg_in, zx, nI_ltI, nI_leI, nI_eq, nI_add, pk_mul, pk_sub, mup_s, mup_c, mup_j, mrw_c, if_pos, if_neg, zm_1, zm_2, zm_3, zm_4, zm_5, zm_6, zm_7, zm_8, zm_9, zf_0, zf_1, zf_2, zf_3, zf_4, zf_5, zf_6, zf_7, zf_8, zf_9, zf_10, zf_14, zf_15, zf_16, zf_18, zf_19, zf_20, zf_24, zf_30, zf_31, zf_32, zf_33, zf_99, zf_100, zf_160, zf_200, zf_287, zf_288, zf_300, zf_1000, zf_1023, zf_1024, zf_1600, zf_3840, zf_25600, zf_36000, zf_1000000, zf_1000000000, zf_2000000000, zf_11560, za_1, za_2, za_4, za_5, za_6, za_7, za_8, za_9, za_10, za_11, za_12, za_14, za_15, za_22, za_23, za_25, za_26, za_27, za_28, za_29, za_30, za_31, za_32, za_33, za_34, za_35, za_41, za_42, za_43, za_44, za_45, za_46, za_47, za_48, za_49, za_61, za_62, za_63, za_64, za_65, za_70, e1, e2, e4, hf, bI_f]
  · rintro f m1 ⟨g1, g2⟩
    have e1 := (g2.at (k := a) (by omega) 1).trans h1
    refine ⟨m1, ?_, g1, g2⟩
    show S_X1_addEndsOf_2 N (L_X1_addEndsOf_2 N f) m1 a (nI b) (nI k) = _
    unfold S_X1_addEndsOf_2
    simp (disch := omega) only [zi_t, zi_f, bnd_t, zg_in, zx, nI_ltI, nI_leI, nI_eq, nI_add, pk_mul, pk_sub, mup_s, mup_c, mup_j, mrw_c, if_pos, if_neg, zm_1, zm_2, zm_3, zm_4, zm_5, zm_6, zm_7, zm_8, zm_9, zf_0, zf_1, zf_2, zf_3, zf_4, zf_5, zf_6, zf_7, zf_8, zf_9, zf_10, zf_14, zf_15, zf_16, zf_18, zf_19, zf_20, zf_24, zf_30, zf_31, zf_32, zf_33, zf_99, zf_100, zf_160, zf_200, zf_287, zf_288, zf_300, zf_1000, zf_1023, zf_1024, zf_1600, zf_3840, zf_25600, zf_36000, zf_1000000, zf_1000000000, zf_2000000000, zf_11560, za_1, za_2, za_4, za_5, za_6, za_7, za_8, za_9, za_10, za_11, za_12, za_14, za_15, za_22, za_23, za_25, za_26, za_27, za_28, za_29, za_30, za_31, za_32, za_33, za_34, za_35, za_41, za_42, za_43, za_44, za_45, za_46, za_47, za_48, za_49, za_61, za_62, za_63, za_64, za_65, za_70, e1]
