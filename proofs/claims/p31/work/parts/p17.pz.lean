
/-! the law's look at answers -/
theorem clL_t {α β : Type} {o : Option ((α ⊕ Nat) × Mem)} {r : α} {m : Mem} {f : α → Mem → Option β} (h : o = some (.inl r, m)) : calL o f = f r m := by rw [h]; rfl
theorem zl_12 : (12 : Int32) = nI 12 := rfl
/-- what a look answers, at each memory that holds the machines -/
def LkA (N : Nat) (Ms : List Ma) (w : List Nat) (ls : Ls) (i : Nat) (u : Bool) (A : List (List Nat)) (β : List Nat) (ck : Int32) : Prop := ∀ m, InC m Ms w ls →
  CQ (F_X7_answers N m (nI i) (bI u)) m (.inl (nI A.length)) Ms w ls ∧ (∀ t p, t < 20 → p < 2 ^ 31 → CQ (F_X7_answer N m (nI i) (bI u) (nI t) (nI p)) m (.inl (if t < A.length then nI (ltP (A.getD t []) p) else nM)) Ms w ls) ∧
  CQ (F_X7_cost N m (nI i) (bI u)) m (.inl ck) Ms w ls ∧ ∀ p, p < 2 ^ 31 → CQ (F_X7_best N m (nI i) (bI u) (nI p)) m (.inl (if A = [] then nM else nI (ltP β p))) Ms w ls
def PQ (m0 : Mem) (Ms : List Ma) (w : List Nat) (ls : Ls) (o : Option (Int32 × Mem)) : Prop := ∃ m', o = some (nI 1, m') ∧ InC m' Ms w ls ∧ ∀ k, 64 ≤ k → m' k = m0 k
section ANS
variable {N : Nat} {Ms : List Ma} {w : List Nat} {ls : Ls} {i : Nat} {u : Bool} {A : List (List Nat)} {β : List Nat} {ck : Int32} {n : Nat} {f : Nat → Bool} {L : ArL}
theorem lk_at (h : LkA N Ms w ls i u A β ck) {m : Mem} (hC : InC m Ms w ls) {t p : Nat} (ht : t < A.length) (h20 : A.length ≤ 20) (hp : p < 2 ^ 31) : ∃ m1, F_X7_answer N m (nI i) (bI u) (nI t) (nI p) = some (.inl (nI (ltP (A.getD t []) p)), m1) ∧ InC m1 Ms w ls ∧ ∀ k, 64 ≤ k → m1 k = m k := by
  have := (h m hC).2.1 t p (by omega) hp
  rw [if_pos ht] at this
  exact this
theorem ltP_8 {ρ : List Nat} (hz : ∀ z, z ∈ ρ → z < 8) (p : Nat) : ltP ρ p ≤ 8 := by
  unfold ltP
  split
  · rename_i hp
    rw [List.getD_eq_getElem?_getD, List.getElem?_eq_getElem (by omega)]
    exact Nat.le_of_lt (hz _ (List.getElem_mem _))
  · exact Nat.le_refl _
theorem gD_mem {t : Nat} (ht : t < A.length) : A[t]? = some (A.getD t []) ∧ A.getD t [] ∈ A := by
  have e : A[t]? = some (A.getD t []) := by
    rw [List.getD_eq_getElem?_getD, List.getElem?_eq_getElem ht]; rfl
  exact ⟨e, List.mem_of_getElem? e⟩
def RecT : Type := Mem → Int32 → Int32 → Int32 → Int32 → Int32 → Int32 → Option (Int32 × Mem)
theorem an_244 (hk : LkA N Ms w ls i u A β ck) (hL : Look u n f L w A) (rec : Mem → Int32 → Int32 → Int32 → Int32 → Int32 → Int32 → Option (Int32 × Mem)) {a k : Nat} {x3 : Int32} {b : Bool} {m : Mem} (hC : InC m Ms w ls) (ha : a < A.length) (hkk : a = 0 ∨ (k < 288 ∧ cdL (ltP (A.getD (a - 1) []) k) < cdL (ltP (A.getD a []) k))) :
    ∃ m', InC m' Ms w ls ∧ (∀ k, 64 ≤ k → m' k = m k) ∧ B_L_areAnswers_244 N rec m (nI i) (bI u) x3 (nI 1) (bI b) (nI a) (nI k) = rec m' (nI i) (bI u) x3 (nI 1) (bI b) (nI (a + 1)) := by
  have hA20 := hL.1
  unfold B_L_areAnswers_244 B_L_areAnswers_337 B_L_areAnswers_342
  rcases Nat.eq_zero_or_pos a with e | e
  · subst e
    refine ⟨m, hC, fun _ _ => rfl, ?_⟩
    simp (disch := omega) only [zi_t, zi_f, bnd_t, zg_in, zx, nI_ltI, nI_leI, nI_eq, nI_add, pk_mul, pk_sub, mup_s, mup_c, mup_j, mrw_c, if_pos, if_neg, zm_1, zm_2, zm_3, zm_4, zm_5, zm_6, zm_7, zm_8, zm_9, zf_0, zf_1, zf_2, zf_3, zf_4, zf_5, zf_6, zf_7, zf_8, zf_9, zf_10, zf_14, zf_15, zf_16, zf_18, zf_19, zf_20, zf_24, zf_30, zf_31, zf_32, zf_33, zf_99, zf_100, zf_160, zf_200, zf_287, zf_288, zf_300, zf_1000, zf_1023, zf_1024, zf_1600, zf_3840, zf_25600, zf_36000, zf_1000000, zf_1000000000, zf_2000000000, zf_11560, za_1, za_2, za_4, za_5, za_6, za_7, za_8, za_9, za_10, za_11, za_12, za_14, za_15, za_22, za_23, za_25, za_26, za_27, za_28, za_29, za_30, za_31, za_32, za_33, za_34, za_35, za_41, za_42, za_43, za_44, za_45, za_46, za_47, za_48, za_49, za_61, za_62, za_63, za_64, za_65, za_70]
  · rcases hkk with hkk | ⟨hk1, hk2⟩
    · omega
    have hz : ∀ t, t < A.length → ltP (A.getD t []) k ≤ 8 := fun t ht => ltP_8 (hL.2.2.1 _ (gD_mem ht).2).2.1 k
    have h1 := hz a ha
    have h2 := hz (a - 1) (by omega)
    obtain ⟨ma, p1, p2, p3⟩ := lk_at hk hC ha hA20 (p := k) (by omega)
    obtain ⟨mb, q1, q2, q3⟩ := lk_at hk p2 ha hA20 (p := k) (by omega)
    obtain ⟨mc, r1, r2, r3⟩ := lk_at hk q2 (t := a - 1) (by omega) hA20 (p := k) (by omega)
    obtain ⟨md, s1, s2, s3⟩ := lk_at hk r2 (t := a - 1) (by omega) hA20 (p := k) (by omega)
    refine ⟨md, s2, fun k hk => by rw [s3 k hk, r3 k hk, q3 k hk, p3 k hk], ?_⟩
    have esub : nI a - nI 1 = nI (a - 1) := pk_sub (by omega)
    have er1 : q_rem (nI (ltP (A.getD a []) k)) (nI 8) = nI (ltP (A.getD a []) k % 8) := pk_rem (by omega) (by omega) (by omega)
    have er2 : q_rem (nI (ltP (A.getD (a - 1) []) k)) (nI 8) = nI (ltP (A.getD (a - 1) []) k % 8) := pk_rem (by omega) (by omega) (by omega)
    unfold cdL at hk2
    simp (disch := omega) only [zi_t, zi_f, bnd_t, zg_in, zx, nI_ltI, nI_leI, nI_eq, nI_add, pk_mul, pk_sub, mup_s, mup_c, mup_j, mrw_c, if_pos, if_neg, zm_1, zm_2, zm_3, zm_4, zm_5, zm_6, zm_7, zm_8, zm_9, zf_0, zf_1, zf_2, zf_3, zf_4, zf_5, zf_6, zf_7, zf_8, zf_9, zf_10, zf_14, zf_15, zf_16, zf_18, zf_19, zf_20, zf_24, zf_30, zf_31, zf_32, zf_33, zf_99, zf_100, zf_160, zf_200, zf_287, zf_288, zf_300, zf_1000, zf_1023, zf_1024, zf_1600, zf_3840, zf_25600, zf_36000, zf_1000000, zf_1000000000, zf_2000000000, zf_11560, za_1, za_2, za_4, za_5, za_6, za_7, za_8, za_9, za_10, za_11, za_12, za_14, za_15, za_22, za_23, za_25, za_26, za_27, za_28, za_29, za_30, za_31, za_32, za_33, za_34, za_35, za_41, za_42, za_43, za_44, za_45, za_46, za_47, za_48, za_49, za_61, za_62, za_63, za_64, za_65, za_70]
    rw [clL_t p1, clL_t q1]
    by_cases c1 : ltP (A.getD a []) k < 8
    · rw [if_pos c1] at hk2
      unfold B_L_areAnswers_295
      simp (disch := omega) only [zi_t, zi_f, bnd_t, zg_in, zx, nI_ltI, nI_leI, nI_eq, nI_add, pk_mul, pk_sub, mup_s, mup_c, mup_j, mrw_c, if_pos, if_neg, zm_1, zm_2, zm_3, zm_4, zm_5, zm_6, zm_7, zm_8, zm_9, zf_0, zf_1, zf_2, zf_3, zf_4, zf_5, zf_6, zf_7, zf_8, zf_9, zf_10, zf_14, zf_15, zf_16, zf_18, zf_19, zf_20, zf_24, zf_30, zf_31, zf_32, zf_33, zf_99, zf_100, zf_160, zf_200, zf_287, zf_288, zf_300, zf_1000, zf_1023, zf_1024, zf_1600, zf_3840, zf_25600, zf_36000, zf_1000000, zf_1000000000, zf_2000000000, zf_11560, za_1, za_2, za_4, za_5, za_6, za_7, za_8, za_9, za_10, za_11, za_12, za_14, za_15, za_22, za_23, za_25, za_26, za_27, za_28, za_29, za_30, za_31, za_32, za_33, za_34, za_35, za_41, za_42, za_43, za_44, za_45, za_46, za_47, za_48, za_49, za_61, za_62, za_63, za_64, za_65, za_70, esub]
      rw [clL_t r1, clL_t s1]
      by_cases c2 : ltP (A.getD (a - 1) []) k < 8
      · rw [if_pos c2] at hk2
        unfold B_L_areAnswers_333 B_L_areAnswers_337 B_L_areAnswers_342
        simp (disch := omega) only [zi_t, zi_f, bnd_t, zg_in, zx, nI_ltI, nI_leI, nI_eq, nI_add, pk_mul, pk_sub, mup_s, mup_c, mup_j, mrw_c, if_pos, if_neg, zm_1, zm_2, zm_3, zm_4, zm_5, zm_6, zm_7, zm_8, zm_9, zf_0, zf_1, zf_2, zf_3, zf_4, zf_5, zf_6, zf_7, zf_8, zf_9, zf_10, zf_14, zf_15, zf_16, zf_18, zf_19, zf_20, zf_24, zf_30, zf_31, zf_32, zf_33, zf_99, zf_100, zf_160, zf_200, zf_287, zf_288, zf_300, zf_1000, zf_1023, zf_1024, zf_1600, zf_3840, zf_25600, zf_36000, zf_1000000, zf_1000000000, zf_2000000000, zf_11560, za_1, za_2, za_4, za_5, za_6, za_7, za_8, za_9, za_10, za_11, za_12, za_14, za_15, za_22, za_23, za_25, za_26, za_27, za_28, za_29, za_30, za_31, za_32, za_33, za_34, za_35, za_41, za_42, za_43, za_44, za_45, za_46, za_47, za_48, za_49, za_61, za_62, za_63, za_64, za_65, za_70, er1, er2]
      · rw [if_neg c2] at hk2
        unfold B_L_areAnswers_333 B_L_areAnswers_337 B_L_areAnswers_342
        simp (disch := omega) only [zi_t, zi_f, bnd_t, zg_in, zx, nI_ltI, nI_leI, nI_eq, nI_add, pk_mul, pk_sub, mup_s, mup_c, mup_j, mrw_c, if_pos, if_neg, zm_1, zm_2, zm_3, zm_4, zm_5, zm_6, zm_7, zm_8, zm_9, zf_0, zf_1, zf_2, zf_3, zf_4, zf_5, zf_6, zf_7, zf_8, zf_9, zf_10, zf_14, zf_15, zf_16, zf_18, zf_19, zf_20, zf_24, zf_30, zf_31, zf_32, zf_33, zf_99, zf_100, zf_160, zf_200, zf_287, zf_288, zf_300, zf_1000, zf_1023, zf_1024, zf_1600, zf_3840, zf_25600, zf_36000, zf_1000000, zf_1000000000, zf_2000000000, zf_11560, za_1, za_2, za_4, za_5, za_6, za_7, za_8, za_9, za_10, za_11, za_12, za_14, za_15, za_22, za_23, za_25, za_26, za_27, za_28, za_29, za_30, za_31, za_32, za_33, za_34, za_35, za_41, za_42, za_43, za_44, za_45, za_46, za_47, za_48, za_49, za_61, za_62, za_63, za_64, za_65, za_70, er1, er2]
    · rw [if_neg c1] at hk2
      omega
theorem an_200 (hN : 40000 < N) (hk : LkA N Ms w ls i u A β ck) (hL : Look u n f L w A) (rec : Mem → Int32 → Int32 → Int32 → Int32 → Int32 → Int32 → Option (Int32 × Mem)) {a : Nat} {x3 : Int32} {b : Bool} {m : Mem} (hC : InC m Ms w ls) (ha : a < A.length) :
    ∃ m', InC m' Ms w ls ∧ (∀ k, 64 ≤ k → m' k = m k) ∧ L_L_areAnswers_200 N rec N m (nI i) (bI u) x3 (nI 1) (bI b) (nI a) (nI 0) = rec m' (nI i) (bI u) x3 (nI 1) (bI b) (nI (a + 1)) := by
  have hA20 := hL.1
  rcases Nat.eq_zero_or_pos a with e | e
  · subst e
    obtain ⟨N', rfl⟩ : ∃ N', N = N' + 1 := ⟨N - 1, by omega⟩
    obtain ⟨m', h1, h2, h3⟩ := an_244 hk hL rec (a := 0) (k := 0) (x3 := x3) (b := b) hC ha (Or.inl rfl)
    refine ⟨m', h1, h2, ?_⟩
    show S_L_areAnswers_200 (N' + 1) rec (L_L_areAnswers_200 (N' + 1) rec N') m (nI i) (bI u) x3 (nI 1) (bI b) (nI 0) (nI 0) = _
    unfold S_L_areAnswers_200
    simp (disch := omega) only [zi_t, zi_f, bnd_t, zg_in, zx, nI_ltI, nI_leI, nI_eq, nI_add, pk_mul, pk_sub, mup_s, mup_c, mup_j, mrw_c, if_pos, if_neg, zm_1, zm_2, zm_3, zm_4, zm_5, zm_6, zm_7, zm_8, zm_9, zf_0, zf_1, zf_2, zf_3, zf_4, zf_5, zf_6, zf_7, zf_8, zf_9, zf_10, zf_14, zf_15, zf_16, zf_18, zf_19, zf_20, zf_24, zf_30, zf_31, zf_32, zf_33, zf_99, zf_100, zf_160, zf_200, zf_287, zf_288, zf_300, zf_1000, zf_1023, zf_1024, zf_1600, zf_3840, zf_25600, zf_36000, zf_1000000, zf_1000000000, zf_2000000000, zf_11560, za_1, za_2, za_4, za_5, za_6, za_7, za_8, za_9, za_10, za_11, za_12, za_14, za_15, za_22, za_23, za_25, za_26, za_27, za_28, za_29, za_30, za_31, za_32, za_33, za_34, za_35, za_41, za_42, za_43, za_44, za_45, za_46, za_47, za_48, za_49, za_61, za_62, za_63, za_64, za_65, za_70]
    exact h3
  · have hp := List.pairwise_iff_getElem.mp hL.2.1 (a - 1) a (by omega) ha (by omega)
    have e1 : A.getD a [] = A[a] := by rw [List.getD_eq_getElem?_getD, List.getElem?_eq_getElem ha]; rfl
    have e2 : A.getD (a - 1) [] = A[a - 1] := by rw [List.getD_eq_getElem?_getD, List.getElem?_eq_getElem (by omega)]; rfl
    rw [← e1, ← e2] at hp
    obtain ⟨K, k1, k2, k3⟩ := hp
    have esub : nI a - nI 1 = nI (a - 1) := pk_sub (by omega)
    have hz : ∀ t k, t < A.length → ltP (A.getD t []) k ≤ 8 := fun t k ht => ltP_8 (hL.2.2.1 _ (gD_mem ht).2).2.1 k
    refine loopF (fun g (m : Mem) k => L_L_areAnswers_200 N rec g m (nI i) (bI u) x3 (nI 1) (bI b) (nI a) (nI k)) K (fun k m' => InC m' Ms w ls ∧ ∀ c, 64 ≤ c → m' c = m c) (fun o => ∃ m', InC m' Ms w ls ∧ (∀ k, 64 ≤ k → m' k = m k) ∧ o = rec m' (nI i) (bI u) x3 (nI 1) (bI b) (nI (a + 1))) ?_ ?_ N 0 m (Nat.zero_le _) ⟨hC, fun _ _ => rfl⟩ (by omega)
    · rintro g k m1 hkK ⟨h1, h2⟩
      obtain ⟨ma, p1, p2, p3⟩ := lk_at hk h1 ha hA20 (p := k) (by omega)
      obtain ⟨mb, q1, q2, q3⟩ := lk_at hk p2 (t := a - 1) (by omega) hA20 (p := k) (by omega)
      rw [k2 k hkK] at q1
      refine Or.inl ⟨mb, ⟨q2, fun c hc => by rw [q3 c hc, p3 c hc, h2 c hc]⟩, ?_⟩
      show S_L_areAnswers_200 N rec (L_L_areAnswers_200 N rec g) m1 (nI i) (bI u) x3 (nI 1) (bI b) (nI a) (nI k) = _
      unfold S_L_areAnswers_200
      simp (disch := omega) only [zi_t, zi_f, bnd_t, zg_in, zx, nI_ltI, nI_leI, nI_eq, nI_add, pk_mul, pk_sub, mup_s, mup_c, mup_j, mrw_c, if_pos, if_neg, zm_1, zm_2, zm_3, zm_4, zm_5, zm_6, zm_7, zm_8, zm_9, zf_0, zf_1, zf_2, zf_3, zf_4, zf_5, zf_6, zf_7, zf_8, zf_9, zf_10, zf_14, zf_15, zf_16, zf_18, zf_19, zf_20, zf_24, zf_30, zf_31, zf_32, zf_33, zf_99, zf_100, zf_160, zf_200, zf_287, zf_288, zf_300, zf_1000, zf_1023, zf_1024, zf_1600, zf_3840, zf_25600, zf_36000, zf_1000000, zf_1000000000, zf_2000000000, zf_11560, za_1, za_2, za_4, za_5, za_6, za_7, za_8, za_9, za_10, za_11, za_12, za_14, za_15, za_22, za_23, za_25, za_26, za_27, za_28, za_29, za_30, za_31, za_32, za_33, za_34, za_35, za_41, za_42, za_43, za_44, za_45, za_46, za_47, za_48, za_49, za_61, za_62, za_63, za_64, za_65, za_70, esub]
      rw [clL_t p1, clL_t q1]
      simp (disch := omega) only [zi_t, zi_f, bnd_t, zg_in, zx, nI_ltI, nI_leI, nI_eq, nI_add, pk_mul, pk_sub, mup_s, mup_c, mup_j, mrw_c, if_pos, if_neg, zm_1, zm_2, zm_3, zm_4, zm_5, zm_6, zm_7, zm_8, zm_9, zf_0, zf_1, zf_2, zf_3, zf_4, zf_5, zf_6, zf_7, zf_8, zf_9, zf_10, zf_14, zf_15, zf_16, zf_18, zf_19, zf_20, zf_24, zf_30, zf_31, zf_32, zf_33, zf_99, zf_100, zf_160, zf_200, zf_287, zf_288, zf_300, zf_1000, zf_1023, zf_1024, zf_1600, zf_3840, zf_25600, zf_36000, zf_1000000, zf_1000000000, zf_2000000000, zf_11560, za_1, za_2, za_4, za_5, za_6, za_7, za_8, za_9, za_10, za_11, za_12, za_14, za_15, za_22, za_23, za_25, za_26, za_27, za_28, za_29, za_30, za_31, za_32, za_33, za_34, za_35, za_41, za_42, za_43, za_44, za_45, za_46, za_47, za_48, za_49, za_61, za_62, za_63, za_64, za_65, za_70]
    · rintro g m1 ⟨h1, h2⟩
      obtain ⟨ma, p1, p2, p3⟩ := lk_at hk h1 ha hA20 (p := K) (by omega)
      obtain ⟨mb, q1, q2, q3⟩ := lk_at hk p2 (t := a - 1) (by omega) hA20 (p := K) (by omega)
      obtain ⟨m', g1, g2, g3⟩ := an_244 hk hL rec (a := a) (k := K) (x3 := x3) (b := b) q2 ha (Or.inr ⟨k1, k3⟩)
      refine ⟨m', g1, fun c hc => by rw [g2 c hc, q3 c hc, p3 c hc, h2 c hc], ?_⟩
      have z1 := hz a K ha
      have z2 := hz (a - 1) K (by omega)
      have hne : ltP (A.getD a []) K ≠ ltP (A.getD (a - 1) []) K := fun h => by rw [h] at k3; omega
      show S_L_areAnswers_200 N rec (L_L_areAnswers_200 N rec g) m1 (nI i) (bI u) x3 (nI 1) (bI b) (nI a) (nI K) = _
      unfold S_L_areAnswers_200
      simp (disch := omega) only [zi_t, zi_f, bnd_t, zg_in, zx, nI_ltI, nI_leI, nI_eq, nI_add, pk_mul, pk_sub, mup_s, mup_c, mup_j, mrw_c, if_pos, if_neg, zm_1, zm_2, zm_3, zm_4, zm_5, zm_6, zm_7, zm_8, zm_9, zf_0, zf_1, zf_2, zf_3, zf_4, zf_5, zf_6, zf_7, zf_8, zf_9, zf_10, zf_14, zf_15, zf_16, zf_18, zf_19, zf_20, zf_24, zf_30, zf_31, zf_32, zf_33, zf_99, zf_100, zf_160, zf_200, zf_287, zf_288, zf_300, zf_1000, zf_1023, zf_1024, zf_1600, zf_3840, zf_25600, zf_36000, zf_1000000, zf_1000000000, zf_2000000000, zf_11560, za_1, za_2, za_4, za_5, za_6, za_7, za_8, za_9, za_10, za_11, za_12, za_14, za_15, za_22, za_23, za_25, za_26, za_27, za_28, za_29, za_30, za_31, za_32, za_33, za_34, za_35, za_41, za_42, za_43, za_44, za_45, za_46, za_47, za_48, za_49, za_61, za_62, za_63, za_64, za_65, za_70, esub]
      rw [clL_t p1, clL_t q1]
      simp (disch := omega) only [zi_t, zi_f, bnd_t, zg_in, zx, nI_ltI, nI_leI, nI_eq, nI_add, pk_mul, pk_sub, mup_s, mup_c, mup_j, mrw_c, if_pos, if_neg, zm_1, zm_2, zm_3, zm_4, zm_5, zm_6, zm_7, zm_8, zm_9, zf_0, zf_1, zf_2, zf_3, zf_4, zf_5, zf_6, zf_7, zf_8, zf_9, zf_10, zf_14, zf_15, zf_16, zf_18, zf_19, zf_20, zf_24, zf_30, zf_31, zf_32, zf_33, zf_99, zf_100, zf_160, zf_200, zf_287, zf_288, zf_300, zf_1000, zf_1023, zf_1024, zf_1600, zf_3840, zf_25600, zf_36000, zf_1000000, zf_1000000000, zf_2000000000, zf_11560, za_1, za_2, za_4, za_5, za_6, za_7, za_8, za_9, za_10, za_11, za_12, za_14, za_15, za_22, za_23, za_25, za_26, za_27, za_28, za_29, za_30, za_31, za_32, za_33, za_34, za_35, za_41, za_42, za_43, za_44, za_45, za_46, za_47, za_48, za_49, za_61, za_62, za_63, za_64, za_65, za_70, hne]
      exact g3
theorem an_180 (hN : 40000 < N) (hk : LkA N Ms w ls i u A β ck) (hL : Look u n f L w A) (rec : Mem → Int32 → Int32 → Int32 → Int32 → Int32 → Int32 → Option (Int32 × Mem)) {a : Nat} {x3 : Int32} {b c : Bool} {m : Mem} (hC : InC m Ms w ls) (ha : a < A.length) :
    ∃ m', InC m' Ms w ls ∧ (∀ k, 64 ≤ k → m' k = m k) ∧ B_L_areAnswers_180 N rec m (nI i) (bI u) x3 (nI 1) (bI b) (nI a) (bI c) = rec m' (nI i) (bI u) x3 (nI 1) (bI (b || c)) (nI (a + 1)) := by
  obtain ⟨m', h1, h2, h3⟩ := an_200 hN hk hL rec (x3 := x3) (b := b || c) hC ha
  refine ⟨m', h1, h2, ?_⟩
  rw [← h3]
  unfold B_L_areAnswers_180 B_L_areAnswers_190 B_L_areAnswers_195
  cases b <;> cases c <;> simp (disch := omega) only [zi_t, zi_f, bnd_t, zg_in, zx, nI_ltI, nI_leI, nI_eq, nI_add, pk_mul, pk_sub, mup_s, mup_c, mup_j, mrw_c, if_pos, if_neg, zm_1, zm_2, zm_3, zm_4, zm_5, zm_6, zm_7, zm_8, zm_9, zf_0, zf_1, zf_2, zf_3, zf_4, zf_5, zf_6, zf_7, zf_8, zf_9, zf_10, zf_14, zf_15, zf_16, zf_18, zf_19, zf_20, zf_24, zf_30, zf_31, zf_32, zf_33, zf_99, zf_100, zf_160, zf_200, zf_287, zf_288, zf_300, zf_1000, zf_1023, zf_1024, zf_1600, zf_3840, zf_25600, zf_36000, zf_1000000, zf_1000000000, zf_2000000000, zf_11560, za_1, za_2, za_4, za_5, za_6, za_7, za_8, za_9, za_10, za_11, za_12, za_14, za_15, za_22, za_23, za_25, za_26, za_27, za_28, za_29, za_30, za_31, za_32, za_33, za_34, za_35, za_41, za_42, za_43, za_44, za_45, za_46, za_47, za_48, za_49, za_61, za_62, za_63, za_64, za_65, za_70, bI_t, bI_f] <;> rfl
theorem an_106 (hN : 40000 < N) (hk : LkA N Ms w ls i u A β ck) (hL : Look u n f L w A) (hβ : ∀ p, ltP β p ≤ 8) (rec : Mem → Int32 → Int32 → Int32 → Int32 → Int32 → Int32 → Option (Int32 × Mem)) {a : Nat} {x3 : Int32} {b : Bool} {m : Mem} (hC : InC m Ms w ls) (ha : a < A.length) :
    ∃ m' c, InC m' Ms w ls ∧ (∀ k, 64 ≤ k → m' k = m k) ∧ (A.getD a [] = β → c = true) ∧ L_L_areAnswers_106 N rec N m (nI i) (bI u) x3 (nI 1) (bI b) (nI a) (nI 1) (nI 0) = rec m' (nI i) (bI u) x3 (nI 1) (bI (b || c)) (nI (a + 1)) := by
  have hA20 := hL.1
  have hne : A ≠ [] := fun h => by rw [h] at ha; exact absurd ha (Nat.not_lt_zero _)
  refine loopF (σ := Mem × Bool) (fun g s k => L_L_areAnswers_106 N rec g s.1 (nI i) (bI u) x3 (nI 1) (bI b) (nI a) (bI s.2) (nI k)) 12 (fun k s => InC s.1 Ms w ls ∧ (∀ c, 64 ≤ c → s.1 c = m c) ∧ (A.getD a [] = β → s.2 = true)) (fun o => ∃ m' c, InC m' Ms w ls ∧ (∀ k, 64 ≤ k → m' k = m k) ∧ (A.getD a [] = β → c = true) ∧ o = rec m' (nI i) (bI u) x3 (nI 1) (bI (b || c)) (nI (a + 1))) ?_ ?_ N 0 (m, true) (Nat.zero_le _) ⟨hC, fun _ _ => rfl, fun _ => rfl⟩ (by omega)
  · rintro g k ⟨m1, c⟩ hk12 ⟨h1, h2, h3⟩
    have h1 : InC m1 Ms w ls := h1
    have h2 : ∀ c, 64 ≤ c → m1 c = m c := h2
    have h3 : A.getD a [] = β → c = true := h3
    cases c with
    | false =>
      right
      obtain ⟨m', g1, g2, g3⟩ := an_180 hN hk hL rec (x3 := x3) (b := b) (c := false) h1 ha
      refine ⟨m', false, g1, fun c hc => by rw [g2 c hc, h2 c hc], h3, ?_⟩
      rw [← g3]
      show S_L_areAnswers_106 N rec (L_L_areAnswers_106 N rec g) m1 (nI i) (bI u) x3 (nI 1) (bI b) (nI a) (bI false) (nI k) = _
      unfold S_L_areAnswers_106
      rw [bI_f]
      simp (disch := omega) only [zi_t, zi_f, bnd_t, zg_in, zx, nI_ltI, nI_leI, nI_eq, nI_add, pk_mul, pk_sub, mup_s, mup_c, mup_j, mrw_c, if_pos, if_neg, zm_1, zm_2, zm_3, zm_4, zm_5, zm_6, zm_7, zm_8, zm_9, zf_0, zf_1, zf_2, zf_3, zf_4, zf_5, zf_6, zf_7, zf_8, zf_9, zf_10, zf_14, zf_15, zf_16, zf_18, zf_19, zf_20, zf_24, zf_30, zf_31, zf_32, zf_33, zf_99, zf_100, zf_160, zf_200, zf_287, zf_288, zf_300, zf_1000, zf_1023, zf_1024, zf_1600, zf_3840, zf_25600, zf_36000, zf_1000000, zf_1000000000, zf_2000000000, zf_11560, za_1, za_2, za_4, za_5, za_6, za_7, za_8, za_9, za_10, za_11, za_12, za_14, za_15, za_22, za_23, za_25, za_26, za_27, za_28, za_29, za_30, za_31, za_32, za_33, za_34, za_35, za_41, za_42, za_43, za_44, za_45, za_46, za_47, za_48, za_49, za_61, za_62, za_63, za_64, za_65, za_70, zl_12]
    | true =>
      left
      obtain ⟨ma, p1, p2, p3⟩ := lk_at hk h1 ha hA20 (p := k) (by omega)
      obtain ⟨mb, q1, q2, q3⟩ := (hk ma p2).2.2.2 k (by omega)
      rw [if_neg hne] at q1
      have z1 : ltP (A.getD a []) k ≤ 8 := ltP_8 (hL.2.2.1 _ (gD_mem ha).2).2.1 k
      have z2 := hβ k
      refine ⟨(mb, decide (ltP (A.getD a []) k = ltP β k)), ⟨q2, fun c hc => by show mb c = m c; rw [q3 c hc, p3 c hc, h2 c hc], fun h => by show decide _ = true; rw [h]; exact decide_eq_true rfl⟩, ?_⟩
      show S_L_areAnswers_106 N rec (L_L_areAnswers_106 N rec g) m1 (nI i) (bI u) x3 (nI 1) (bI b) (nI a) (bI true) (nI k) = _
      unfold S_L_areAnswers_106
      rw [bI_t]
      simp (disch := omega) only [zi_t, zi_f, bnd_t, zg_in, zx, nI_ltI, nI_leI, nI_eq, nI_add, pk_mul, pk_sub, mup_s, mup_c, mup_j, mrw_c, if_pos, if_neg, zm_1, zm_2, zm_3, zm_4, zm_5, zm_6, zm_7, zm_8, zm_9, zf_0, zf_1, zf_2, zf_3, zf_4, zf_5, zf_6, zf_7, zf_8, zf_9, zf_10, zf_14, zf_15, zf_16, zf_18, zf_19, zf_20, zf_24, zf_30, zf_31, zf_32, zf_33, zf_99, zf_100, zf_160, zf_200, zf_287, zf_288, zf_300, zf_1000, zf_1023, zf_1024, zf_1600, zf_3840, zf_25600, zf_36000, zf_1000000, zf_1000000000, zf_2000000000, zf_11560, za_1, za_2, za_4, za_5, za_6, za_7, za_8, za_9, za_10, za_11, za_12, za_14, za_15, za_22, za_23, za_25, za_26, za_27, za_28, za_29, za_30, za_31, za_32, za_33, za_34, za_35, za_41, za_42, za_43, za_44, za_45, za_46, za_47, za_48, za_49, za_61, za_62, za_63, za_64, za_65, za_70, zl_12]
      rw [clL_t p1, clL_t q1]
      by_cases ce : ltP (A.getD a []) k = ltP β k
      · unfold B_L_areAnswers_148 B_L_areAnswers_172
        simp (disch := omega) only [zi_t, zi_f, bnd_t, zg_in, zx, nI_ltI, nI_leI, nI_eq, nI_add, pk_mul, pk_sub, mup_s, mup_c, mup_j, mrw_c, if_pos, if_neg, zm_1, zm_2, zm_3, zm_4, zm_5, zm_6, zm_7, zm_8, zm_9, zf_0, zf_1, zf_2, zf_3, zf_4, zf_5, zf_6, zf_7, zf_8, zf_9, zf_10, zf_14, zf_15, zf_16, zf_18, zf_19, zf_20, zf_24, zf_30, zf_31, zf_32, zf_33, zf_99, zf_100, zf_160, zf_200, zf_287, zf_288, zf_300, zf_1000, zf_1023, zf_1024, zf_1600, zf_3840, zf_25600, zf_36000, zf_1000000, zf_1000000000, zf_2000000000, zf_11560, za_1, za_2, za_4, za_5, za_6, za_7, za_8, za_9, za_10, za_11, za_12, za_14, za_15, za_22, za_23, za_25, za_26, za_27, za_28, za_29, za_30, za_31, za_32, za_33, za_34, za_35, za_41, za_42, za_43, za_44, za_45, za_46, za_47, za_48, za_49, za_61, za_62, za_63, za_64, za_65, za_70, ce]
        rfl
      · unfold B_L_areAnswers_148 B_L_areAnswers_172
        simp (disch := omega) only [zi_t, zi_f, bnd_t, zg_in, zx, nI_ltI, nI_leI, nI_eq, nI_add, pk_mul, pk_sub, mup_s, mup_c, mup_j, mrw_c, if_pos, if_neg, zm_1, zm_2, zm_3, zm_4, zm_5, zm_6, zm_7, zm_8, zm_9, zf_0, zf_1, zf_2, zf_3, zf_4, zf_5, zf_6, zf_7, zf_8, zf_9, zf_10, zf_14, zf_15, zf_16, zf_18, zf_19, zf_20, zf_24, zf_30, zf_31, zf_32, zf_33, zf_99, zf_100, zf_160, zf_200, zf_287, zf_288, zf_300, zf_1000, zf_1023, zf_1024, zf_1600, zf_3840, zf_25600, zf_36000, zf_1000000, zf_1000000000, zf_2000000000, zf_11560, za_1, za_2, za_4, za_5, za_6, za_7, za_8, za_9, za_10, za_11, za_12, za_14, za_15, za_22, za_23, za_25, za_26, za_27, za_28, za_29, za_30, za_31, za_32, za_33, za_34, za_35, za_41, za_42, za_43, za_44, za_45, za_46, za_47, za_48, za_49, za_61, za_62, za_63, za_64, za_65, za_70, ce]
        rfl
  · rintro g ⟨m1, c⟩ ⟨h1, h2, h3⟩
    obtain ⟨m', g1, g2, g3⟩ := an_180 hN hk hL rec (x3 := x3) (b := b) (c := c) h1 ha
    refine ⟨m', c, g1, fun c hc => by rw [g2 c hc]; exact h2 c hc, h3, ?_⟩
    rw [← g3]
    show S_L_areAnswers_106 N rec (L_L_areAnswers_106 N rec g) m1 (nI i) (bI u) x3 (nI 1) (bI b) (nI a) (bI c) (nI 12) = _
    unfold S_L_areAnswers_106
    simp (disch := omega) only [zi_t, zi_f, bnd_t, zg_in, zx, nI_ltI, nI_leI, nI_eq, nI_add, pk_mul, pk_sub, mup_s, mup_c, mup_j, mrw_c, if_pos, if_neg, zm_1, zm_2, zm_3, zm_4, zm_5, zm_6, zm_7, zm_8, zm_9, zf_0, zf_1, zf_2, zf_3, zf_4, zf_5, zf_6, zf_7, zf_8, zf_9, zf_10, zf_14, zf_15, zf_16, zf_18, zf_19, zf_20, zf_24, zf_30, zf_31, zf_32, zf_33, zf_99, zf_100, zf_160, zf_200, zf_287, zf_288, zf_300, zf_1000, zf_1023, zf_1024, zf_1600, zf_3840, zf_25600, zf_36000, zf_1000000, zf_1000000000, zf_2000000000, zf_11560, za_1, za_2, za_4, za_5, za_6, za_7, za_8, za_9, za_10, za_11, za_12, za_14, za_15, za_22, za_23, za_25, za_26, za_27, za_28, za_29, za_30, za_31, za_32, za_33, za_34, za_35, za_41, za_42, za_43, za_44, za_45, za_46, za_47, za_48, za_49, za_61, za_62, za_63, za_64, za_65, za_70, zl_12]
theorem as_areAnswers (hN : 40000 < N) (hk : LkA N Ms w ls i u A β ck) (hL : Look u n f L w A) (hβ : ∀ p, ltP β p ≤ 8) (hbest : A ≠ [] → A.length = 20 ∨ β ∈ A) (hck : (A = [] ∧ ck = nM) ∨ (A ≠ [] ∧ ∃ v, v < 2 ^ 30 ∧ ck = nI v)) {m : Mem} (hC : InC m Ms w ls) : PQ m Ms w ls (F_L_areAnswers N m (nI i) (bI u)) := by
  have hA20 := hL.1
  have outer : ∀ m1, InC m1 Ms w ls → ∀ b, (A.length = 20 ∨ A = [] → b = true) → PQ m1 Ms w ls (L_L_areAnswers_89 N N m1 (nI i) (bI u) (nI A.length) (nI 1) (bI b) (nI 0)) := by
    intro m1 hC1 b hb
    refine loopF (σ := Mem × Bool) (fun g s k => L_L_areAnswers_89 N g s.1 (nI i) (bI u) (nI A.length) (nI 1) (bI s.2) (nI k)) A.length (fun k s => InC s.1 Ms w ls ∧ (∀ c, 64 ≤ c → s.1 c = m1 c) ∧ (A.length = 20 ∨ A = [] → s.2 = true) ∧ ∀ j, j < k → A.getD j [] = β → s.2 = true) (PQ m1 Ms w ls) ?_ ?_ N 0 (m1, b) (Nat.zero_le _) ⟨hC1, fun _ _ => rfl, hb, fun j hj => absurd hj (Nat.not_lt_zero _)⟩ (by omega)
    · rintro g a ⟨m2, b⟩ ha ⟨h1, h2, h3, h4⟩
      obtain ⟨m3, c, g1, g2, g3, g4⟩ := an_106 hN hk hL hβ (L_L_areAnswers_89 N g) (x3 := nI A.length) (b := b) h1 ha
      refine Or.inl ⟨(m3, b || c), ⟨g1, fun c hc => by show m3 c = m1 c; rw [g2 c hc]; exact h2 c hc, fun h => ?_, fun j hj hjb => ?_⟩, ?_⟩
      · show (b || c) = true
        rw [show b = true from h3 h]; rfl
      · show (b || c) = true
        by_cases e : j = a
        · rw [e] at hjb
          rw [g3 hjb, Bool.or_true]
        · rw [show b = true from h4 j (by omega) hjb]; rfl
      · show S_L_areAnswers_89 N (L_L_areAnswers_89 N g) m2 (nI i) (bI u) (nI A.length) (nI 1) (bI b) (nI a) = _
        unfold S_L_areAnswers_89
        simp (disch := omega) only [zi_t, zi_f, bnd_t, zg_in, zx, nI_ltI, nI_leI, nI_eq, nI_add, pk_mul, pk_sub, mup_s, mup_c, mup_j, mrw_c, if_pos, if_neg, zm_1, zm_2, zm_3, zm_4, zm_5, zm_6, zm_7, zm_8, zm_9, zf_0, zf_1, zf_2, zf_3, zf_4, zf_5, zf_6, zf_7, zf_8, zf_9, zf_10, zf_14, zf_15, zf_16, zf_18, zf_19, zf_20, zf_24, zf_30, zf_31, zf_32, zf_33, zf_99, zf_100, zf_160, zf_200, zf_287, zf_288, zf_300, zf_1000, zf_1023, zf_1024, zf_1600, zf_3840, zf_25600, zf_36000, zf_1000000, zf_1000000000, zf_2000000000, zf_11560, za_1, za_2, za_4, za_5, za_6, za_7, za_8, za_9, za_10, za_11, za_12, za_14, za_15, za_22, za_23, za_25, za_26, za_27, za_28, za_29, za_30, za_31, za_32, za_33, za_34, za_35, za_41, za_42, za_43, za_44, za_45, za_46, za_47, za_48, za_49, za_61, za_62, za_63, za_64, za_65, za_70]
        exact g4
    · rintro g ⟨m2, b⟩ ⟨h1, h2, h3, h4⟩
      have hb : b = true := by
        by_cases e : A.length = 20 ∨ A = []
        · exact h3 e
        · have hne : A ≠ [] := fun h => e (Or.inr h)
          rcases hbest hne with h | h
          · exact absurd (Or.inl h) e
          · obtain ⟨j, hj⟩ := List.getElem?_of_mem h
            exact h4 j (List.getElem?_eq_some_iff.mp hj).1 (by rw [List.getD_eq_getElem?_getD, hj]; rfl)
      subst hb
      refine ⟨m2, ?_, h1, h2⟩
      show S_L_areAnswers_89 N (L_L_areAnswers_89 N g) m2 (nI i) (bI u) (nI A.length) (nI 1) (bI true) (nI A.length) = _
      unfold S_L_areAnswers_89 B_L_areAnswers_350 B_L_areAnswers_365
      rw [bI_t]
      simp (disch := omega) only [zi_t, zi_f, bnd_t, zg_in, zx, nI_ltI, nI_leI, nI_eq, nI_add, pk_mul, pk_sub, mup_s, mup_c, mup_j, mrw_c, if_pos, if_neg, zm_1, zm_2, zm_3, zm_4, zm_5, zm_6, zm_7, zm_8, zm_9, zf_0, zf_1, zf_2, zf_3, zf_4, zf_5, zf_6, zf_7, zf_8, zf_9, zf_10, zf_14, zf_15, zf_16, zf_18, zf_19, zf_20, zf_24, zf_30, zf_31, zf_32, zf_33, zf_99, zf_100, zf_160, zf_200, zf_287, zf_288, zf_300, zf_1000, zf_1023, zf_1024, zf_1600, zf_3840, zf_25600, zf_36000, zf_1000000, zf_1000000000, zf_2000000000, zf_11560, za_1, za_2, za_4, za_5, za_6, za_7, za_8, za_9, za_10, za_11, za_12, za_14, za_15, za_22, za_23, za_25, za_26, za_27, za_28, za_29, za_30, za_31, za_32, za_33, za_34, za_35, za_41, za_42, za_43, za_44, za_45, za_46, za_47, za_48, za_49, za_61, za_62, za_63, za_64, za_65, za_70]
      exact gd_t rfl
  obtain ⟨ma, p1, p2, p3⟩ := (hk m hC).1
  obtain ⟨mb, q1, q2, q3⟩ := (hk ma p2).2.2.1
  obtain ⟨mc, r1, r2, r3⟩ := (hk mb q2).2.2.2 0 (by omega)
  have fin : ∀ b, (A.length = 20 ∨ A = [] → b = true) → PQ m Ms w ls (L_L_areAnswers_89 N N mc (nI i) (bI u) (nI A.length) (nI 1) (bI b) (nI 0)) := by
    intro b hb
    obtain ⟨m', h1, h2, h3⟩ := outer mc r2 b hb
    exact ⟨m', h1, h2, fun k hk => by rw [h3 k hk, r3 k hk, q3 k hk, p3 k hk]⟩
  rcases hck with ⟨hA, hck⟩ | ⟨hA, v, hv, hck⟩
  · rw [if_pos hA] at r1
    rw [hck] at q1
    have h0 := fin true (fun _ => rfl)
    rw [hA, bI_t] at h0
    rw [hA] at p1
    have h0 : PQ m Ms w ls (L_L_areAnswers_89 N N mc (nI i) (bI u) (nI 0) (nI 1) (nI 1) (nI 0)) := h0
    have p1 : F_X7_answers N m (nI i) (bI u) = some (.inl (nI 0), ma) := p1
    unfold F_L_areAnswers
    rw [clL_t p1]
    unfold B_L_areAnswers_16
    simp (disch := omega) only [zi_t, zi_f, bnd_t, zg_in, zx, nI_ltI, nI_leI, nI_eq, nI_add, pk_mul, pk_sub, mup_s, mup_c, mup_j, mrw_c, if_pos, if_neg, zm_1, zm_2, zm_3, zm_4, zm_5, zm_6, zm_7, zm_8, zm_9, zf_0, zf_1, zf_2, zf_3, zf_4, zf_5, zf_6, zf_7, zf_8, zf_9, zf_10, zf_14, zf_15, zf_16, zf_18, zf_19, zf_20, zf_24, zf_30, zf_31, zf_32, zf_33, zf_99, zf_100, zf_160, zf_200, zf_287, zf_288, zf_300, zf_1000, zf_1023, zf_1024, zf_1600, zf_3840, zf_25600, zf_36000, zf_1000000, zf_1000000000, zf_2000000000, zf_11560, za_1, za_2, za_4, za_5, za_6, za_7, za_8, za_9, za_10, za_11, za_12, za_14, za_15, za_22, za_23, za_25, za_26, za_27, za_28, za_29, za_30, za_31, za_32, za_33, za_34, za_35, za_41, za_42, za_43, za_44, za_45, za_46, za_47, za_48, za_49, za_61, za_62, za_63, za_64, za_65, za_70]
    rw [clL_t q1]
    unfold B_L_areAnswers_31 B_L_areAnswers_43
    simp (disch := omega) only [zi_t, zi_f, bnd_t, zg_in, zx, nI_ltI, nI_leI, nI_eq, nI_add, pk_mul, pk_sub, mup_s, mup_c, mup_j, mrw_c, if_pos, if_neg, zm_1, zm_2, zm_3, zm_4, zm_5, zm_6, zm_7, zm_8, zm_9, zf_0, zf_1, zf_2, zf_3, zf_4, zf_5, zf_6, zf_7, zf_8, zf_9, zf_10, zf_14, zf_15, zf_16, zf_18, zf_19, zf_20, zf_24, zf_30, zf_31, zf_32, zf_33, zf_99, zf_100, zf_160, zf_200, zf_287, zf_288, zf_300, zf_1000, zf_1023, zf_1024, zf_1600, zf_3840, zf_25600, zf_36000, zf_1000000, zf_1000000000, zf_2000000000, zf_11560, za_1, za_2, za_4, za_5, za_6, za_7, za_8, za_9, za_10, za_11, za_12, za_14, za_15, za_22, za_23, za_25, za_26, za_27, za_28, za_29, za_30, za_31, za_32, za_33, za_34, za_35, za_41, za_42, za_43, za_44, za_45, za_46, za_47, za_48, za_49, za_61, za_62, za_63, za_64, za_65, za_70]
    rw [clL_t r1]
    unfold B_L_areAnswers_59 B_L_areAnswers_67 B_L_areAnswers_79 B_L_areAnswers_84
    simp (disch := omega) only [zi_t, zi_f, bnd_t, zg_in, zx, nI_ltI, nI_leI, nI_eq, nI_add, pk_mul, pk_sub, mup_s, mup_c, mup_j, mrw_c, if_pos, if_neg, zm_1, zm_2, zm_3, zm_4, zm_5, zm_6, zm_7, zm_8, zm_9, zf_0, zf_1, zf_2, zf_3, zf_4, zf_5, zf_6, zf_7, zf_8, zf_9, zf_10, zf_14, zf_15, zf_16, zf_18, zf_19, zf_20, zf_24, zf_30, zf_31, zf_32, zf_33, zf_99, zf_100, zf_160, zf_200, zf_287, zf_288, zf_300, zf_1000, zf_1023, zf_1024, zf_1600, zf_3840, zf_25600, zf_36000, zf_1000000, zf_1000000000, zf_2000000000, zf_11560, za_1, za_2, za_4, za_5, za_6, za_7, za_8, za_9, za_10, za_11, za_12, za_14, za_15, za_22, za_23, za_25, za_26, za_27, za_28, za_29, za_30, za_31, za_32, za_33, za_34, za_35, za_41, za_42, za_43, za_44, za_45, za_46, za_47, za_48, za_49, za_61, za_62, za_63, za_64, za_65, za_70]
    exact h0
  · rw [if_neg hA] at r1
    rw [hck] at q1
    have hlen : A.length ≠ 0 := fun h => hA (List.length_eq_zero_iff.mp h)
    have z := hβ 0
    unfold F_L_areAnswers
    rw [clL_t p1]
    unfold B_L_areAnswers_16
    simp (disch := omega) only [zi_t, zi_f, bnd_t, zg_in, zx, nI_ltI, nI_leI, nI_eq, nI_add, pk_mul, pk_sub, mup_s, mup_c, mup_j, mrw_c, if_pos, if_neg, zm_1, zm_2, zm_3, zm_4, zm_5, zm_6, zm_7, zm_8, zm_9, zf_0, zf_1, zf_2, zf_3, zf_4, zf_5, zf_6, zf_7, zf_8, zf_9, zf_10, zf_14, zf_15, zf_16, zf_18, zf_19, zf_20, zf_24, zf_30, zf_31, zf_32, zf_33, zf_99, zf_100, zf_160, zf_200, zf_287, zf_288, zf_300, zf_1000, zf_1023, zf_1024, zf_1600, zf_3840, zf_25600, zf_36000, zf_1000000, zf_1000000000, zf_2000000000, zf_11560, za_1, za_2, za_4, za_5, za_6, za_7, za_8, za_9, za_10, za_11, za_12, za_14, za_15, za_22, za_23, za_25, za_26, za_27, za_28, za_29, za_30, za_31, za_32, za_33, za_34, za_35, za_41, za_42, za_43, za_44, za_45, za_46, za_47, za_48, za_49, za_61, za_62, za_63, za_64, za_65, za_70, hlen]
    rw [clL_t q1]
    unfold B_L_areAnswers_31 B_L_areAnswers_43
    simp (disch := omega) only [zi_t, zi_f, bnd_t, zg_in, zx, nI_ltI, nI_leI, nI_eq, nI_add, pk_mul, pk_sub, mup_s, mup_c, mup_j, mrw_c, if_pos, if_neg, zm_1, zm_2, zm_3, zm_4, zm_5, zm_6, zm_7, zm_8, zm_9, zf_0, zf_1, zf_2, zf_3, zf_4, zf_5, zf_6, zf_7, zf_8, zf_9, zf_10, zf_14, zf_15, zf_16, zf_18, zf_19, zf_20, zf_24, zf_30, zf_31, zf_32, zf_33, zf_99, zf_100, zf_160, zf_200, zf_287, zf_288, zf_300, zf_1000, zf_1023, zf_1024, zf_1600, zf_3840, zf_25600, zf_36000, zf_1000000, zf_1000000000, zf_2000000000, zf_11560, za_1, za_2, za_4, za_5, za_6, za_7, za_8, za_9, za_10, za_11, za_12, za_14, za_15, za_22, za_23, za_25, za_26, za_27, za_28, za_29, za_30, za_31, za_32, za_33, za_34, za_35, za_41, za_42, za_43, za_44, za_45, za_46, za_47, za_48, za_49, za_61, za_62, za_63, za_64, za_65, za_70, hlen]
    rw [clL_t r1]
    by_cases e : A.length = 20
    · have h0 := fin true (fun _ => rfl)
      rw [bI_t] at h0
      unfold B_L_areAnswers_59 B_L_areAnswers_67 B_L_areAnswers_79 B_L_areAnswers_84
      simp (disch := omega) only [zi_t, zi_f, bnd_t, zg_in, zx, nI_ltI, nI_leI, nI_eq, nI_add, pk_mul, pk_sub, mup_s, mup_c, mup_j, mrw_c, if_pos, if_neg, zm_1, zm_2, zm_3, zm_4, zm_5, zm_6, zm_7, zm_8, zm_9, zf_0, zf_1, zf_2, zf_3, zf_4, zf_5, zf_6, zf_7, zf_8, zf_9, zf_10, zf_14, zf_15, zf_16, zf_18, zf_19, zf_20, zf_24, zf_30, zf_31, zf_32, zf_33, zf_99, zf_100, zf_160, zf_200, zf_287, zf_288, zf_300, zf_1000, zf_1023, zf_1024, zf_1600, zf_3840, zf_25600, zf_36000, zf_1000000, zf_1000000000, zf_2000000000, zf_11560, za_1, za_2, za_4, za_5, za_6, za_7, za_8, za_9, za_10, za_11, za_12, za_14, za_15, za_22, za_23, za_25, za_26, za_27, za_28, za_29, za_30, za_31, za_32, za_33, za_34, za_35, za_41, za_42, za_43, za_44, za_45, za_46, za_47, za_48, za_49, za_61, za_62, za_63, za_64, za_65, za_70, e]
      rw [e] at h0
      exact h0
    · have h0 := fin false (fun h => by
        rcases h with h | h
        · exact absurd h e
        · exact absurd h hA)
      rw [bI_f] at h0
      unfold B_L_areAnswers_59 B_L_areAnswers_67 B_L_areAnswers_79 B_L_areAnswers_84
      simp (disch := omega) only [zi_t, zi_f, bnd_t, zg_in, zx, nI_ltI, nI_leI, nI_eq, nI_add, pk_mul, pk_sub, mup_s, mup_c, mup_j, mrw_c, if_pos, if_neg, zm_1, zm_2, zm_3, zm_4, zm_5, zm_6, zm_7, zm_8, zm_9, zf_0, zf_1, zf_2, zf_3, zf_4, zf_5, zf_6, zf_7, zf_8, zf_9, zf_10, zf_14, zf_15, zf_16, zf_18, zf_19, zf_20, zf_24, zf_30, zf_31, zf_32, zf_33, zf_99, zf_100, zf_160, zf_200, zf_287, zf_288, zf_300, zf_1000, zf_1023, zf_1024, zf_1600, zf_3840, zf_25600, zf_36000, zf_1000000, zf_1000000000, zf_2000000000, zf_11560, za_1, za_2, za_4, za_5, za_6, za_7, za_8, za_9, za_10, za_11, za_12, za_14, za_15, za_22, za_23, za_25, za_26, za_27, za_28, za_29, za_30, za_31, za_32, za_33, za_34, za_35, za_41, za_42, za_43, za_44, za_45, za_46, za_47, za_48, za_49, za_61, za_62, za_63, za_64, za_65, za_70, e, hlen]
      exact h0
end ANS
