theorem dr_link0 {N n st : Nat} {m : Mem} {E : Nat → Bool} {D : ArL} {rd : Nat → Bool} (hN : 30000 < N) (h : DR m n st E D) (hn : n ≤ 1024) (hD : D.length ≤ 25600) (hok : DOK n D) (hrd : ∀ s, s < n → m 10 s = bI (rd s)) :
    ∃ m', F_X1_linkArcs N m (nI 0) = some m' ∧ CH m' n D.length (fun j => rd (keyF D j)) (keyT D) ∧ Off 7 9 m m' := by
  unfold F_X1_linkArcs
  refine loopF (fun f (m : Mem) i => L_X1_linkArcs_2 N f m (nI 0) (nI i)) n (fun i m' => (∀ s, s < i → m' 7 s = nM) ∧ Off 7 9 m m') (fun o => ∃ m', o = some m' ∧ CH m' n D.length (fun j => rd (keyF D j)) (keyT D) ∧ Off 7 9 m m') ?_ ?_ N 0 m (Nat.zero_le _) ⟨fun s hs => by omega, Off.rf⟩ (by omega)
  · rintro f i m1 hi ⟨h1, h2⟩
    have e3 := h2.at (k := 3) (by omega) 3
    refine Or.inl ⟨mup m1 7 i nM, ⟨?_, h2.up (by omega) (by omega)⟩, ?_⟩
    · intro s hs
      rw [mup_if]
      split
      · rfl
      · exact h1 s (by omega)
    · show S_X1_linkArcs_2 N (L_X1_linkArcs_2 N f) m1 (nI 0) (nI i) = _
      unfold S_X1_linkArcs_2
      simp (disch := omega) only [zi_t, zi_f, bnd_t, zg_in, zx, nI_ltI, nI_leI, nI_eq, nI_add, pk_mul, pk_sub, mup_s, mup_c, mup_j, mrw_c, if_pos, if_neg, zm_1, zm_2, zm_3, zm_4, zm_5, zm_6, zm_7, zm_8, zm_9, zf_0, zf_1, zf_2, zf_3, zf_4, zf_5, zf_6, zf_7, zf_8, zf_9, zf_10, zf_14, zf_15, zf_16, zf_18, zf_19, zf_20, zf_24, zf_30, zf_31, zf_32, zf_33, zf_99, zf_100, zf_160, zf_200, zf_287, zf_288, zf_300, zf_1000, zf_1023, zf_1024, zf_1600, zf_3840, zf_25600, zf_36000, zf_1000000, zf_1000000000, zf_2000000000, zf_11560, za_1, za_2, za_4, za_5, za_6, za_7, za_8, za_9, za_10, za_11, za_12, za_14, za_15, za_22, za_23, za_25, za_26, za_27, za_28, za_29, za_30, za_31, za_32, za_33, za_34, za_35, za_41, za_42, za_43, za_44, za_45, za_46, za_47, za_48, za_49, za_61, za_62, za_63, za_64, za_65, za_70, e3, h.1]
  · rintro f m1 ⟨h1, h2⟩
    have e3 := h2.at (k := 3) (by omega) 3
    show ∃ m', S_X1_linkArcs_2 N (L_X1_linkArcs_2 N f) m1 (nI 0) (nI n) = some m' ∧ _
    unfold S_X1_linkArcs_2
    simp (disch := omega) only [zi_t, zi_f, bnd_t, zg_in, zx, nI_ltI, nI_leI, nI_eq, nI_add, pk_mul, pk_sub, mup_s, mup_c, mup_j, mrw_c, if_pos, if_neg, zm_1, zm_2, zm_3, zm_4, zm_5, zm_6, zm_7, zm_8, zm_9, zf_0, zf_1, zf_2, zf_3, zf_4, zf_5, zf_6, zf_7, zf_8, zf_9, zf_10, zf_14, zf_15, zf_16, zf_18, zf_19, zf_20, zf_24, zf_30, zf_31, zf_32, zf_33, zf_99, zf_100, zf_160, zf_200, zf_287, zf_288, zf_300, zf_1000, zf_1023, zf_1024, zf_1600, zf_3840, zf_25600, zf_36000, zf_1000000, zf_1000000000, zf_2000000000, zf_11560, za_1, za_2, za_4, za_5, za_6, za_7, za_8, za_9, za_10, za_11, za_12, za_14, za_15, za_22, za_23, za_25, za_26, za_27, za_28, za_29, za_30, za_31, za_32, za_33, za_34, za_35, za_41, za_42, za_43, za_44, za_45, za_46, za_47, za_48, za_49, za_61, za_62, za_63, za_64, za_65, za_70, e3, h.1]
    refine loopF (fun f (m : Mem) i => L_X1_linkArcs_25 N f m (nI 0) (nI i)) D.length (fun i m' => CH m' n i (fun j => rd (keyF D j)) (keyT D) ∧ Off 7 9 m m') (fun o => ∃ m', o = some m' ∧ CH m' n D.length (fun j => rd (keyF D j)) (keyT D) ∧ Off 7 9 m m') ?_ ?_ N 0 m1 (Nat.zero_le _) ⟨?_, h2⟩ (by omega)
    · rintro f i m2 hi ⟨h3, h4⟩
      obtain ⟨q, hq⟩ : ∃ q, D[i]? = some q := ⟨_, List.getElem?_eq_getElem hi⟩
      have hqm := hok q (List.mem_of_getElem? hq)
      have e5 := (h4.at (k := 3) (by omega) 5).trans h.2.2.1
      have e4 := (h4.at (k := 4) (by omega) i).trans (h.2.2.2.1 i q hq).1
      have hq1 := hqm.1
      have hq2 : q.1 / 262144 < n := hqm.2.1
      have hq3 : q.1 % 1024 < n := hqm.2.2.1
      have e10 := (h4.at (k := 10) (by omega) (q.1 / 262144)).trans (hrd _ hq2)
      cases hr : rd (q.1 / 262144) with
      | true =>
        refine Or.inl ⟨mup (mup m2 8 i (m2 7 (too q.1))) 7 (too q.1) (nI i), ⟨h3.add (keyT_at hq) hqm.2.2.1 (by rw [keyF_at hq]; exact hr), (h4.up (by omega) (by omega)).up (by omega) (by omega)⟩, ?_⟩
        show S_X1_linkArcs_25 N (L_X1_linkArcs_25 N f) m2 (nI 0) (nI i) = _
        unfold S_X1_linkArcs_25 B_X1_linkArcs_54 B_X1_linkArcs_79 B_X1_linkArcs_99
        simp (disch := omega) only [zi_t, zi_f, bnd_t, zg_in, zx, nI_ltI, nI_leI, nI_eq, nI_add, pk_mul, pk_sub, mup_s, mup_c, mup_j, mrw_c, if_pos, if_neg, zm_1, zm_2, zm_3, zm_4, zm_5, zm_6, zm_7, zm_8, zm_9, zf_0, zf_1, zf_2, zf_3, zf_4, zf_5, zf_6, zf_7, zf_8, zf_9, zf_10, zf_14, zf_15, zf_16, zf_18, zf_19, zf_20, zf_24, zf_30, zf_31, zf_32, zf_33, zf_99, zf_100, zf_160, zf_200, zf_287, zf_288, zf_300, zf_1000, zf_1023, zf_1024, zf_1600, zf_3840, zf_25600, zf_36000, zf_1000000, zf_1000000000, zf_2000000000, zf_11560, za_1, za_2, za_4, za_5, za_6, za_7, za_8, za_9, za_10, za_11, za_12, za_14, za_15, za_22, za_23, za_25, za_26, za_27, za_28, za_29, za_30, za_31, za_32, za_33, za_34, za_35, za_41, za_42, za_43, za_44, za_45, za_46, za_47, za_48, za_49, za_61, za_62, za_63, za_64, za_65, za_70, e5, e4, pk_from, pk_to, e10, hr, bI_t]
      | false =>
        refine Or.inl ⟨m2, ⟨h3.skip (by rw [keyF_at hq]; exact hr), h4⟩, ?_⟩
        show S_X1_linkArcs_25 N (L_X1_linkArcs_25 N f) m2 (nI 0) (nI i) = _
        unfold S_X1_linkArcs_25 B_X1_linkArcs_99
        simp (disch := omega) only [zi_t, zi_f, bnd_t, zg_in, zx, nI_ltI, nI_leI, nI_eq, nI_add, pk_mul, pk_sub, mup_s, mup_c, mup_j, mrw_c, if_pos, if_neg, zm_1, zm_2, zm_3, zm_4, zm_5, zm_6, zm_7, zm_8, zm_9, zf_0, zf_1, zf_2, zf_3, zf_4, zf_5, zf_6, zf_7, zf_8, zf_9, zf_10, zf_14, zf_15, zf_16, zf_18, zf_19, zf_20, zf_24, zf_30, zf_31, zf_32, zf_33, zf_99, zf_100, zf_160, zf_200, zf_287, zf_288, zf_300, zf_1000, zf_1023, zf_1024, zf_1600, zf_3840, zf_25600, zf_36000, zf_1000000, zf_1000000000, zf_2000000000, zf_11560, za_1, za_2, za_4, za_5, za_6, za_7, za_8, za_9, za_10, za_11, za_12, za_14, za_15, za_22, za_23, za_25, za_26, za_27, za_28, za_29, za_30, za_31, za_32, za_33, za_34, za_35, za_41, za_42, za_43, za_44, za_45, za_46, za_47, za_48, za_49, za_61, za_62, za_63, za_64, za_65, za_70, e5, e4, pk_from, pk_to, e10, hr, bI_f]
    · rintro f m2 ⟨h3, h4⟩
      have e5 := (h4.at (k := 3) (by omega) 5).trans h.2.2.1
      refine ⟨m2, ?_, h3, h4⟩
      show S_X1_linkArcs_25 N (L_X1_linkArcs_25 N f) m2 (nI 0) (nI D.length) = _
      unfold S_X1_linkArcs_25
      simp (disch := omega) only [zi_t, zi_f, bnd_t, zg_in, zx, nI_ltI, nI_leI, nI_eq, nI_add, pk_mul, pk_sub, mup_s, mup_c, mup_j, mrw_c, if_pos, if_neg, zm_1, zm_2, zm_3, zm_4, zm_5, zm_6, zm_7, zm_8, zm_9, zf_0, zf_1, zf_2, zf_3, zf_4, zf_5, zf_6, zf_7, zf_8, zf_9, zf_10, zf_14, zf_15, zf_16, zf_18, zf_19, zf_20, zf_24, zf_30, zf_31, zf_32, zf_33, zf_99, zf_100, zf_160, zf_200, zf_287, zf_288, zf_300, zf_1000, zf_1023, zf_1024, zf_1600, zf_3840, zf_25600, zf_36000, zf_1000000, zf_1000000000, zf_2000000000, zf_11560, za_1, za_2, za_4, za_5, za_6, za_7, za_8, za_9, za_10, za_11, za_12, za_14, za_15, za_22, za_23, za_25, za_26, za_27, za_28, za_29, za_30, za_31, za_32, za_33, za_34, za_35, za_41, za_42, za_43, za_44, za_45, za_46, za_47, za_48, za_49, za_61, za_62, za_63, za_64, za_65, za_70, e5]
    · intro s hs
      exact ⟨[], h1 s hs, List.nodup_nil, fun j => ⟨fun h => (by cases h), fun h => (by omega)⟩⟩
def addN (Q : List Nat) (t : Nat) : List Nat := if t ∈ Q then Q else Q ++ [t]
theorem addN_mem {Q : List Nat} {t x : Nat} : x ∈ addN Q t ↔ x ∈ Q ∨ x = t := by
  unfold addN
  split
  · rename_i h
    constructor
    · exact Or.inl
    · rintro (h1 | rfl)
      · exact h1
      · exact h
  · rw [List.mem_append, List.mem_singleton]
theorem addNs_mem : ∀ (T Q : List Nat) (x : Nat), x ∈ T.foldl addN Q ↔ x ∈ Q ∨ x ∈ T
  | [], Q, x => by simp
  | t :: T, Q, x => by
    rw [List.foldl_cons, addNs_mem T (addN Q t) x, addN_mem, List.mem_cons, or_assoc]
theorem addN_nodup {Q : List Nat} {t : Nat} (h : Q.Nodup) : (addN Q t).Nodup := by
  unfold addN
  split
  · exact h
  · rename_i ht; exact nodup_snoc h ht
theorem addN_pre (Q : List Nat) (t : Nat) : ∃ R, addN Q t = Q ++ R := by
  unfold addN
  split
  · exact ⟨[], (List.append_nil _).symm⟩
  · exact ⟨[t], rfl⟩
theorem addNs_pre : ∀ (T Q : List Nat), ∃ R, T.foldl addN Q = Q ++ R
  | [], Q => ⟨[], (List.append_nil _).symm⟩
  | t :: T, Q => by
    obtain ⟨R, h⟩ := addN_pre Q t
    obtain ⟨R2, h2⟩ := addNs_pre T (addN Q t)
    exact ⟨R ++ R2, by rw [List.foldl_cons, h2, h, List.append_assoc]⟩
def QM (m : Mem) (a n : Nat) (Q : List Nat) : Prop := Q.Nodup ∧ (∀ s, s ∈ Q → s < n) ∧ (∀ i q, Q[i]? = some q → m 9 i = nI q) ∧ ∀ s, s < n → m a s = bI (decide (s ∈ Q))
theorem QM.len {m : Mem} {a n : Nat} {Q : List Nat} (h : QM m a n Q) : Q.length ≤ n := nodup_bound h.1 h.2.1
theorem QM.cg {m m' : Mem} {a n : Nat} {Q : List Nat} (h : QM m a n Q) (h9 : m' 9 = m 9) (ha : m' a = m a) : QM m' a n Q := ⟨h.1, h.2.1, fun i q hq => by rw [h9]; exact h.2.2.1 i q hq, fun s hs => by rw [ha]; exact h.2.2.2 s hs⟩
theorem QM.add {m : Mem} {a n t : Nat} {Q : List Nat} (h : QM m a n Q) (ha : a ≠ 9) (ht : t < n) (hm : ¬ t ∈ Q) : QM (mup (mup m a t (nI 1)) 9 Q.length (nI t)) a n (Q ++ [t]) := by
  refine ⟨nodup_snoc h.1 hm, ?_, ?_, ?_⟩
  · intro s hs
    rcases List.mem_append.mp hs with e | e
    · exact h.2.1 s e
    · rw [List.mem_singleton] at e; rw [e]; exact ht
  · intro i q hq
    rcases snoc_get hq with ⟨h1, h2⟩ | ⟨h1, h2⟩
    · rw [mup_j (by omega), mup_c (by omega)]; exact h.2.2.1 i q h2
    · rw [h1, h2, mup_s]
  · intro s hs
    rw [mup_c ha, mup_if]
    by_cases e : s = t
    · rw [if_pos e, e, decide_eq_true (by rw [List.mem_append, List.mem_singleton]; exact Or.inr rfl)]; rfl
    · rw [if_neg e, h.2.2.2 s hs]
      congr 1
      apply decide_eq_decide.mpr
      rw [List.mem_append, List.mem_singleton]
      exact ⟨Or.inl, fun h => h.elim id (fun h => absurd h e)⟩
def Two (a b : Nat) (m m' : Mem) : Prop := ∀ c, c ≠ a → c ≠ b → m' c = m c
theorem fol_in {N n st a : Nat} {E : Nat → Bool} {D : ArL} {fw : Nat} {rec : Mem → Int32 → Nat → Int32 → Int32 → Option (Int32 × Mem)} {x5 : Nat} (ha : (a = 10 ∧ fw = 1) ∨ (a = 11 ∧ fw = 0)) (hn : n ≤ 1024) (hD : D.length ≤ 25600) (hok : DOK n D) (hx5 : x5 < 2000) :
    ∀ (f : Nat) (js : List Nat) (m : Mem) (Q : List Nat) (x : Int32) (seen : Nat), DR m n st E D → Chn m x js → (∀ j, j ∈ js → j < D.length) → seen + js.length ≤ D.length → QM m a n Q → js.length < f →
      ∃ m', L_X1_follow_38 N rec f m (nI fw) a (nI Q.length) (nI x5) x (nI seen) = rec m' (nI fw) a (nI ((js.map (if fw = 1 then keyT D else keyF D)).foldl addN Q).length) (nI (x5 + 1)) ∧ QM m' a n ((js.map (if fw = 1 then keyT D else keyF D)).foldl addN Q) ∧ Two a 9 m m' := by
  have ha1 : a ≠ 9 ∧ a ≠ 3 ∧ a ≠ 4 ∧ a ≠ 5 ∧ a ≠ 6 ∧ a ≠ 8 := by omega
  have hal : alen a = 1024 := by rcases ha with ⟨rfl, _⟩ | ⟨rfl, _⟩ <;> rfl
  intro f
  induction f with
  | zero => intro js m Q x seen _ _ _ _ _ h; omega
  | succ f ih =>
    intro js m Q x seen hDR hC hjs hsn hQ hf
    show ∃ m', S_X1_follow_38 N rec (L_X1_follow_38 N rec f) m (nI fw) a (nI Q.length) (nI x5) x (nI seen) = _ ∧ _
    unfold S_X1_follow_38 B_X1_follow_120
    cases js with
    | nil =>
      rw [show x = nM from hC]
      refine ⟨m, ?_, hQ, fun _ _ _ => rfl⟩
      simp (disch := omega) only [zi_t, zi_f, bnd_t, zg_in, zx, nI_ltI, nI_leI, nI_eq, nI_add, pk_mul, pk_sub, mup_s, mup_c, mup_j, mrw_c, if_pos, if_neg, zm_1, zm_2, zm_3, zm_4, zm_5, zm_6, zm_7, zm_8, zm_9, zf_0, zf_1, zf_2, zf_3, zf_4, zf_5, zf_6, zf_7, zf_8, zf_9, zf_10, zf_14, zf_15, zf_16, zf_18, zf_19, zf_20, zf_24, zf_30, zf_31, zf_32, zf_33, zf_99, zf_100, zf_160, zf_200, zf_287, zf_288, zf_300, zf_1000, zf_1023, zf_1024, zf_1600, zf_3840, zf_25600, zf_36000, zf_1000000, zf_1000000000, zf_2000000000, zf_11560, za_1, za_2, za_4, za_5, za_6, za_7, za_8, za_9, za_10, za_11, za_12, za_14, za_15, za_22, za_23, za_25, za_26, za_27, za_28, za_29, za_30, za_31, za_32, za_33, za_34, za_35, za_41, za_42, za_43, za_44, za_45, za_46, za_47, za_48, za_49, za_61, za_62, za_63, za_64, za_65, za_70, List.map_nil, List.foldl_nil]
    | cons j js =>
      obtain ⟨hx, hC2⟩ := hC
      have hj := hjs j (List.mem_cons_self ..)
      rw [List.length_cons] at hsn hf
      obtain ⟨q, hq⟩ : ∃ q, D[j]? = some q := ⟨_, List.getElem?_eq_getElem hj⟩
      have hqm := hok q (List.mem_of_getElem? hq)
      have e4 := (hDR.2.2.2.1 j q hq).1
      have e5 := hDR.2.2.1
      have hq1 := hqm.1
      have hql := hQ.len
      obtain ⟨t, ht, hkey, hB⟩ : ∃ t, t < n ∧ (if fw = 1 then keyT D else keyF D) j = t ∧ S_X1_follow_38 N rec (L_X1_follow_38 N rec f) m (nI fw) a (nI Q.length) (nI x5) x (nI seen) = B_X1_follow_79 N rec (L_X1_follow_38 N rec f) m (nI fw) a (nI Q.length) (nI x5) (nI j) (nI seen) (nI t) := by
        rcases ha with ⟨_, rfl⟩ | ⟨_, rfl⟩
        · refine ⟨too q.1, hqm.2.2.1, by rw [if_pos rfl, keyT_at hq], ?_⟩
          unfold S_X1_follow_38
          simp (disch := omega) only [zi_t, zi_f, bnd_t, zg_in, zx, nI_ltI, nI_leI, nI_eq, nI_add, pk_mul, pk_sub, mup_s, mup_c, mup_j, mrw_c, if_pos, if_neg, zm_1, zm_2, zm_3, zm_4, zm_5, zm_6, zm_7, zm_8, zm_9, zf_0, zf_1, zf_2, zf_3, zf_4, zf_5, zf_6, zf_7, zf_8, zf_9, zf_10, zf_14, zf_15, zf_16, zf_18, zf_19, zf_20, zf_24, zf_30, zf_31, zf_32, zf_33, zf_99, zf_100, zf_160, zf_200, zf_287, zf_288, zf_300, zf_1000, zf_1023, zf_1024, zf_1600, zf_3840, zf_25600, zf_36000, zf_1000000, zf_1000000000, zf_2000000000, zf_11560, za_1, za_2, za_4, za_5, za_6, za_7, za_8, za_9, za_10, za_11, za_12, za_14, za_15, za_22, za_23, za_25, za_26, za_27, za_28, za_29, za_30, za_31, za_32, za_33, za_34, za_35, za_41, za_42, za_43, za_44, za_45, za_46, za_47, za_48, za_49, za_61, za_62, za_63, za_64, za_65, za_70, hx, e4, e5, pk_to]
        · refine ⟨fr q.1, hqm.2.1, by rw [if_neg (by omega), keyF_at hq], ?_⟩
          unfold S_X1_follow_38
          simp (disch := omega) only [zi_t, zi_f, bnd_t, zg_in, zx, nI_ltI, nI_leI, nI_eq, nI_add, pk_mul, pk_sub, mup_s, mup_c, mup_j, mrw_c, if_pos, if_neg, zm_1, zm_2, zm_3, zm_4, zm_5, zm_6, zm_7, zm_8, zm_9, zf_0, zf_1, zf_2, zf_3, zf_4, zf_5, zf_6, zf_7, zf_8, zf_9, zf_10, zf_14, zf_15, zf_16, zf_18, zf_19, zf_20, zf_24, zf_30, zf_31, zf_32, zf_33, zf_99, zf_100, zf_160, zf_200, zf_287, zf_288, zf_300, zf_1000, zf_1023, zf_1024, zf_1600, zf_3840, zf_25600, zf_36000, zf_1000000, zf_1000000000, zf_2000000000, zf_11560, za_1, za_2, za_4, za_5, za_6, za_7, za_8, za_9, za_10, za_11, za_12, za_14, za_15, za_22, za_23, za_25, za_26, za_27, za_28, za_29, za_30, za_31, za_32, za_33, za_34, za_35, za_41, za_42, za_43, za_44, za_45, za_46, za_47, za_48, za_49, za_61, za_62, za_63, za_64, za_65, za_70, hx, e4, e5, pk_from]
      have hB2 := hB
      unfold S_X1_follow_38 B_X1_follow_120 at hB2
      rw [hB2, List.map_cons, List.foldl_cons, hkey]
      unfold B_X1_follow_79 B_X1_follow_105
      have hat := hQ.2.2.2 t ht
      by_cases hm : t ∈ Q
      · rw [show addN Q t = Q from if_pos hm]
        rw [decide_eq_true hm, bI_t] at hat
        simp (disch := omega) only [zi_t, zi_f, bnd_t, zg_in, zx, nI_ltI, nI_leI, nI_eq, nI_add, pk_mul, pk_sub, mup_s, mup_c, mup_j, mrw_c, if_pos, if_neg, zm_1, zm_2, zm_3, zm_4, zm_5, zm_6, zm_7, zm_8, zm_9, zf_0, zf_1, zf_2, zf_3, zf_4, zf_5, zf_6, zf_7, zf_8, zf_9, zf_10, zf_14, zf_15, zf_16, zf_18, zf_19, zf_20, zf_24, zf_30, zf_31, zf_32, zf_33, zf_99, zf_100, zf_160, zf_200, zf_287, zf_288, zf_300, zf_1000, zf_1023, zf_1024, zf_1600, zf_3840, zf_25600, zf_36000, zf_1000000, zf_1000000000, zf_2000000000, zf_11560, za_1, za_2, za_4, za_5, za_6, za_7, za_8, za_9, za_10, za_11, za_12, za_14, za_15, za_22, za_23, za_25, za_26, za_27, za_28, za_29, za_30, za_31, za_32, za_33, za_34, za_35, za_41, za_42, za_43, za_44, za_45, za_46, za_47, za_48, za_49, za_61, za_62, za_63, za_64, za_65, za_70, hal, hat]
        exact ih js m Q (m 8 j) (seen + 1) hDR hC2 (fun i hi => hjs i (List.mem_cons_of_mem _ hi)) (by omega) hQ (by omega)
      · rw [show addN Q t = Q ++ [t] from if_neg hm]
        rw [decide_eq_false hm, bI_f] at hat
        have hlen : Q.length < n := by
          have := (hQ.add ha1.1 ht hm).len
          rw [List.length_append, List.length_singleton] at this
          omega
        simp (disch := omega) only [zi_t, zi_f, bnd_t, zg_in, zx, nI_ltI, nI_leI, nI_eq, nI_add, pk_mul, pk_sub, mup_s, mup_c, mup_j, mrw_c, if_pos, if_neg, zm_1, zm_2, zm_3, zm_4, zm_5, zm_6, zm_7, zm_8, zm_9, zf_0, zf_1, zf_2, zf_3, zf_4, zf_5, zf_6, zf_7, zf_8, zf_9, zf_10, zf_14, zf_15, zf_16, zf_18, zf_19, zf_20, zf_24, zf_30, zf_31, zf_32, zf_33, zf_99, zf_100, zf_160, zf_200, zf_287, zf_288, zf_300, zf_1000, zf_1023, zf_1024, zf_1600, zf_3840, zf_25600, zf_36000, zf_1000000, zf_1000000000, zf_2000000000, zf_11560, za_1, za_2, za_4, za_5, za_6, za_7, za_8, za_9, za_10, za_11, za_12, za_14, za_15, za_22, za_23, za_25, za_26, za_27, za_28, za_29, za_30, za_31, za_32, za_33, za_34, za_35, za_41, za_42, za_43, za_44, za_45, za_46, za_47, za_48, za_49, za_61, za_62, za_63, za_64, za_65, za_70, hal, hat]
        have h8 : mup (mup m a t (nI 1)) 9 Q.length (nI t) 8 = m 8 := by rw [mup_r (by omega), mup_r (by omega)]
        have := ih js (mup (mup m a t (nI 1)) 9 Q.length (nI t)) (Q ++ [t]) (m 8 j) (seen + 1)
          (hDR.cg (by rw [mup_r (by omega), mup_r (by omega)]) (by rw [mup_r (by omega), mup_r (by omega)]) (by rw [mup_r (by omega), mup_r (by omega)]) (by rw [mup_r (by omega), mup_r (by omega)]))
          (hC2.cg (fun i _ => by rw [h8])) (fun i hi => hjs i (List.mem_cons_of_mem _ hi)) (by omega) (hQ.add ha1.1 ht hm) (by omega)
        rw [List.length_append, List.length_singleton] at this
        obtain ⟨m', g1, g2, g3⟩ := this
        refine ⟨m', g1, g2, fun c h1 h2 => ?_⟩
        rw [g3 c h1 h2, mup_r h2, mup_r h1]
