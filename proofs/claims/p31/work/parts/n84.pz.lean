theorem fol_out {N n st a : Nat} {E : Nat → Bool} {D : ArL} {fw : Nat} {sel : Nat → Bool} {Q0 : List Nat} {m0 : Mem} (hN : 30000 < N) (ha : (a = 10 ∧ fw = 1) ∨ (a = 11 ∧ fw = 0)) (hn : n ≤ 1024) (hD : D.length ≤ 25600) (hok : DOK n D)
    (hDR : DR m0 n st E D) (hCH : CH m0 n D.length sel (if fw = 1 then keyF D else keyT D)) (hQ0 : QM m0 a n Q0) :
    ∃ m' Q, F_X1_follow N m0 (nI Q0.length) (nI fw) a = some (nI Q.length, m') ∧ QM m' a n Q ∧ Two a 9 m0 m' ∧ (∀ x, x ∈ Q0 → x ∈ Q) ∧
      (∀ j, j < D.length → sel j = true → (if fw = 1 then keyF D else keyT D) j ∈ Q → (if fw = 1 then keyT D else keyF D) j ∈ Q) ∧
      (∀ P : Nat → Prop, (∀ x, x ∈ Q0 → P x) → (∀ j, j < D.length → sel j = true → P ((if fw = 1 then keyF D else keyT D) j) → P ((if fw = 1 then keyT D else keyF D) j)) → ∀ x, x ∈ Q → P x) := by
  have ha1 : a ≠ 9 ∧ a ≠ 3 ∧ a ≠ 4 ∧ a ≠ 5 ∧ a ≠ 6 ∧ a ≠ 7 ∧ a ≠ 8 := by omega
  unfold F_X1_follow
  refine loopW (σ := Mem × List Nat × Nat) (fun f s => L_X1_follow_6 N f s.1 (nI fw) a (nI s.2.1.length) (nI s.2.2))
    (fun s => QM s.1 a n s.2.1 ∧ Two a 9 m0 s.1 ∧ (∀ x, x ∈ Q0 → x ∈ s.2.1) ∧ s.2.2 ≤ s.2.1.length ∧
      (∀ i x, i < s.2.2 → s.2.1[i]? = some x → ∀ j, j < D.length → sel j = true → (if fw = 1 then keyF D else keyT D) j = x → (if fw = 1 then keyT D else keyF D) j ∈ s.2.1) ∧
      (∀ P : Nat → Prop, (∀ x, x ∈ Q0 → P x) → (∀ j, j < D.length → sel j = true → P ((if fw = 1 then keyF D else keyT D) j) → P ((if fw = 1 then keyT D else keyF D) j)) → ∀ x, x ∈ s.2.1 → P x))
    (fun s => n - s.2.2)
    (fun o => ∃ m' Q, o = some (nI Q.length, m') ∧ QM m' a n Q ∧ Two a 9 m0 m' ∧ (∀ x, x ∈ Q0 → x ∈ Q) ∧
      (∀ j, j < D.length → sel j = true → (if fw = 1 then keyF D else keyT D) j ∈ Q → (if fw = 1 then keyT D else keyF D) j ∈ Q) ∧
      (∀ P : Nat → Prop, (∀ x, x ∈ Q0 → P x) → (∀ j, j < D.length → sel j = true → P ((if fw = 1 then keyF D else keyT D) j) → P ((if fw = 1 then keyT D else keyF D) j)) → ∀ x, x ∈ Q → P x))
    ?_ N (m0, Q0, 0) ⟨hQ0, fun _ _ _ => rfl, fun x h => h, Nat.zero_le _, fun i x hi => absurd hi (Nat.not_lt_zero _), fun P h _ => h⟩ (by show n - 0 < N; omega)
  rintro f ⟨m, Q, k⟩ ⟨h1, h2, h3, h4, h5, h6⟩
  dsimp only at h1 h2 h3 h4 h5 h6
  have hql := h1.len
  have hc : ∀ c, c = 3 ∨ c = 4 ∨ c = 5 ∨ c = 6 ∨ c = 7 ∨ c = 8 → m c = m0 c := fun c hc => h2 c (by omega) (by omega)
  have hDRm : DR m n st E D := hDR.cg (hc 3 (by omega)) (hc 4 (by omega)) (hc 5 (by omega)) (hc 6 (by omega))
  have hCHm := hCH.cg (hc 7 (by omega)) (hc 8 (by omega))
  show (∃ s', _ ∧ _ ∧ S_X1_follow_6 N (L_X1_follow_6 N f) m (nI fw) a (nI Q.length) (nI k) = _) ∨ (∃ m' Q', S_X1_follow_6 N (L_X1_follow_6 N f) m (nI fw) a (nI Q.length) (nI k) = _ ∧ _)
  unfold S_X1_follow_6 B_X1_follow_126
  by_cases hk : k < Q.length
  · obtain ⟨s, hs⟩ : ∃ s, Q[k]? = some s := ⟨_, List.getElem?_eq_getElem hk⟩
    have hsn := h1.2.1 s (List.mem_of_getElem? hs)
    have e9 := h1.2.2.1 k s hs
    obtain ⟨js, hC, hnd, hjs⟩ := hCHm s hsn
    have hjl : js.length ≤ D.length := nodup_bound hnd (fun j hj => ((hjs j).mp hj).1)
    obtain ⟨m', g1, g2, g3⟩ := fol_in (N := N) (rec := L_X1_follow_6 N f) (x5 := k) ha hn hD hok (by omega) N js m Q (m 7 s) 0 hDRm hC (fun j hj => ((hjs j).mp hj).1) (by omega) h1 (by omega)
    refine Or.inl ⟨(m', (js.map (if fw = 1 then keyT D else keyF D)).foldl addN Q, k + 1), ⟨g2, ?_, ?_, ?_, ?_, ?_⟩, ?_, ?_⟩
    · intro c hc1 hc2
      show m' c = m0 c
      rw [g3 c hc1 hc2, h2 c hc1 hc2]
    · intro x hx
      exact (addNs_mem _ _ _).mpr (Or.inl (h3 x hx))
    · obtain ⟨R, hR⟩ := addNs_pre (js.map (if fw = 1 then keyT D else keyF D)) Q
      show k + 1 ≤ (List.foldl addN Q _).length
      rw [hR, List.length_append]
      omega
    · intro i x hi hx j hj hsel hkey
      show _ ∈ List.foldl addN Q _
      have hx2 : Q[i]? = some x := by
        obtain ⟨R, hR⟩ := addNs_pre (js.map (if fw = 1 then keyT D else keyF D)) Q
        have hx : (List.foldl addN Q (js.map (if fw = 1 then keyT D else keyF D)))[i]? = some x := hx
        rw [hR, List.getElem?_append_left (by have hi : i < k + 1 := hi; omega)] at hx
        exact hx
      rcases Nat.lt_or_ge i k with e | e
      · exact (addNs_mem _ _ _).mpr (Or.inl (h5 i x e hx2 j hj hsel hkey))
      · have e2 : i = k := by have hi : i < k + 1 := hi; omega
        subst e2
        rw [hs] at hx2
        refine (addNs_mem _ _ _).mpr (Or.inr (List.mem_map.mpr ⟨j, (hjs j).mpr ⟨hj, hsel, ?_⟩, rfl⟩))
        rw [hkey]
        exact (Option.some.inj hx2).symm
    · intro P hP hs2 x hx
      rcases (addNs_mem _ _ _).mp hx with e | e
      · exact h6 P hP hs2 x e
      · obtain ⟨j, hj, rfl⟩ := List.mem_map.mp e
        have hj2 := (hjs j).mp hj
        exact hs2 j hj2.1 hj2.2.1 (by rw [hj2.2.2]; exact h6 P hP hs2 s (List.mem_of_getElem? hs))
    · show n - (k + 1) < n - k
      omega
    · show _ = L_X1_follow_6 N f m' (nI fw) a (nI (List.foldl addN Q _).length) (nI (k + 1))
      rw [← g1]
      simp (disch := omega) only [zi_t, zi_f, bnd_t, zg_in, zx, nI_ltI, nI_leI, nI_eq, nI_add, pk_mul, pk_sub, mup_s, mup_c, mup_j, mrw_c, if_pos, if_neg, zm_1, zm_2, zm_3, zm_4, zm_5, zm_6, zm_7, zm_8, zm_9, zf_0, zf_1, zf_2, zf_3, zf_4, zf_5, zf_6, zf_7, zf_8, zf_9, zf_10, zf_14, zf_15, zf_16, zf_18, zf_19, zf_20, zf_24, zf_30, zf_31, zf_32, zf_33, zf_99, zf_100, zf_160, zf_200, zf_287, zf_288, zf_300, zf_1000, zf_1023, zf_1024, zf_1600, zf_3840, zf_25600, zf_36000, zf_1000000, zf_1000000000, zf_2000000000, zf_11560, za_1, za_2, za_4, za_5, za_6, za_7, za_8, za_9, za_10, za_11, za_12, za_14, za_15, za_22, za_23, za_25, za_26, za_27, za_28, za_29, za_30, za_31, za_32, za_33, za_34, za_35, za_41, za_42, za_43, za_44, za_45, za_46, za_47, za_48, za_49, za_61, za_62, za_63, za_64, za_65, za_70, e9]
  · have e : k = Q.length := by omega
    refine Or.inr ⟨m, Q, ?_, h1, h2, h3, ?_, h6⟩
    · simp (disch := omega) only [zi_t, zi_f, bnd_t, zg_in, zx, nI_ltI, nI_leI, nI_eq, nI_add, pk_mul, pk_sub, mup_s, mup_c, mup_j, mrw_c, if_pos, if_neg, zm_1, zm_2, zm_3, zm_4, zm_5, zm_6, zm_7, zm_8, zm_9, zf_0, zf_1, zf_2, zf_3, zf_4, zf_5, zf_6, zf_7, zf_8, zf_9, zf_10, zf_14, zf_15, zf_16, zf_18, zf_19, zf_20, zf_24, zf_30, zf_31, zf_32, zf_33, zf_99, zf_100, zf_160, zf_200, zf_287, zf_288, zf_300, zf_1000, zf_1023, zf_1024, zf_1600, zf_3840, zf_25600, zf_36000, zf_1000000, zf_1000000000, zf_2000000000, zf_11560, za_1, za_2, za_4, za_5, za_6, za_7, za_8, za_9, za_10, za_11, za_12, za_14, za_15, za_22, za_23, za_25, za_26, za_27, za_28, za_29, za_30, za_31, za_32, za_33, za_34, za_35, za_41, za_42, za_43, za_44, za_45, za_46, za_47, za_48, za_49, za_61, za_62, za_63, za_64, za_65, za_70]
    · intro j hj hsel hkey
      obtain ⟨i, hi⟩ := List.getElem?_of_mem hkey
      exact h5 i _ (by rw [e]; exact (List.getElem?_eq_some_iff.mp hi).1) hi j hj hsel rfl
def aR (D : ArL) (s t : Nat) : Prop := ∃ q, q ∈ D ∧ fr q.1 = s ∧ too q.1 = t
theorem aR_at {D : ArL} {j : Nat} (hj : j < D.length) : aR D (keyF D j) (keyT D j) := by
  have hq := List.getElem?_eq_getElem hj
  exact ⟨D[j], List.getElem_mem hj, (keyF_at hq).symm, (keyT_at hq).symm⟩
theorem aR_of {D : ArL} {s t : Nat} (h : aR D s t) : ∃ j, j < D.length ∧ keyF D j = s ∧ keyT D j = t := by
  obtain ⟨q, hq, h1, h2⟩ := h
  obtain ⟨j, hj⟩ := List.getElem?_of_mem hq
  exact ⟨j, (List.getElem?_eq_some_iff.mp hj).1, by rw [keyF_at hj, h1], by rw [keyT_at hj, h2]⟩
def Us (D : ArL) (E : Nat → Bool) (st s : Nat) : Prop := Rc (aR D) st s ∧ ∃ e, E e = true ∧ Rc (aR D) s e
theorem dr_reached {N n st : Nat} {m : Mem} {E : Nat → Bool} {D : ArL} (hN : 30000 < N) (h : DR m n st E D) (hn : n ≤ 1024) (hst : st < n) (hD : D.length ≤ 25600) (hok : DOK n D) :
    ∃ m' Q, F_X1_markReached N m = some m' ∧ QM m' 10 n Q ∧ (∀ s, s ∈ Q ↔ Rc (aR D) st s) ∧ Off 7 11 m m' := by
  unfold F_X1_markReached
  refine loopF (fun f (m : Mem) i => L_X1_markReached_2 N f m (nI i)) n (fun i m' => (∀ s, s < i → m' 10 s = nI 0) ∧ Off 7 11 m m') (fun o => ∃ m' Q, o = some m' ∧ QM m' 10 n Q ∧ (∀ s, s ∈ Q ↔ Rc (aR D) st s) ∧ Off 7 11 m m') ?_ ?_ N 0 m (Nat.zero_le _) ⟨fun s hs => by omega, Off.rf⟩ (by omega)
  · rintro f i m1 hi ⟨h1, h2⟩
    have e3 := (h2.at (k := 3) (by omega) 3).trans h.1
    refine Or.inl ⟨mup m1 10 i (nI 0), ⟨?_, h2.up (by omega) (by omega)⟩, ?_⟩
    · intro s hs
      rw [mup_if]
      split
      · rfl
      · exact h1 s (by omega)
    · show S_X1_markReached_2 N (L_X1_markReached_2 N f) m1 (nI i) = _
      unfold S_X1_markReached_2
      simp (disch := omega) only [zi_t, zi_f, bnd_t, zg_in, zx, nI_ltI, nI_leI, nI_eq, nI_add, pk_mul, pk_sub, mup_s, mup_c, mup_j, mrw_c, if_pos, if_neg, zm_1, zm_2, zm_3, zm_4, zm_5, zm_6, zm_7, zm_8, zm_9, zf_0, zf_1, zf_2, zf_3, zf_4, zf_5, zf_6, zf_7, zf_8, zf_9, zf_10, zf_14, zf_15, zf_16, zf_18, zf_19, zf_20, zf_24, zf_30, zf_31, zf_32, zf_33, zf_99, zf_100, zf_160, zf_200, zf_287, zf_288, zf_300, zf_1000, zf_1023, zf_1024, zf_1600, zf_3840, zf_25600, zf_36000, zf_1000000, zf_1000000000, zf_2000000000, zf_11560, za_1, za_2, za_4, za_5, za_6, za_7, za_8, za_9, za_10, za_11, za_12, za_14, za_15, za_22, za_23, za_25, za_26, za_27, za_28, za_29, za_30, za_31, za_32, za_33, za_34, za_35, za_41, za_42, za_43, za_44, za_45, za_46, za_47, za_48, za_49, za_61, za_62, za_63, za_64, za_65, za_70, e3]
  · rintro f m1 ⟨h1, h2⟩
    have e3 := (h2.at (k := 3) (by omega) 3).trans h.1
    have e4 := (h2.at (k := 3) (by omega) 4).trans h.2.1
    have o2 : Off 7 11 m (mup (mup m1 10 st (nI 1)) 9 0 (nI st)) := (h2.up (by omega) (by omega)).up (by omega) (by omega)
    have d2 : DR (mup (mup m1 10 st (nI 1)) 9 0 (nI st)) n st E D := h.cg (o2 3 (by omega)) (o2 4 (by omega)) (o2 5 (by omega)) (o2 6 (by omega))
    obtain ⟨m3, g1, g2, g3⟩ := dr_link1 hN d2 hn hD hok
    have q3 : QM m3 10 n [st] := by
      refine ⟨by simp, fun s hs => by rw [List.mem_singleton] at hs; omega, ?_, ?_⟩
      · intro i q hq
        have hi := (List.getElem?_eq_some_iff.mp hq).1
        rw [List.length_singleton] at hi
        have e : i = 0 := by omega
        subst e
        rw [g3.at (by omega), mup_s]
        rw [List.getElem?_cons_zero] at hq
        rw [Option.some.inj hq]
      · intro s hs
        rw [g3.at (by omega), mup_c (by omega), mup_if]
        split
        · rename_i e; rw [decide_eq_true (by rw [List.mem_singleton]; exact e)]; rfl
        · rename_i e; rw [decide_eq_false (by rw [List.mem_singleton]; exact e)]; exact h1 s hs
    obtain ⟨m4, Q, k1, k2, k3, k4, k5, k6⟩ := fol_out (a := 10) (fw := 1) (sel := fun _ => true) hN (Or.inl ⟨rfl, rfl⟩) hn hD hok (d2.cg (g3 3 (by omega)) (g3 4 (by omega)) (g3 5 (by omega)) (g3 6 (by omega))) g2 q3
    refine ⟨m4, Q, ?_, k2, ?_, ?_⟩
    · show S_X1_markReached_2 N (L_X1_markReached_2 N f) m1 (nI n) = _
      unfold S_X1_markReached_2
      simp (disch := omega) only [zi_t, zi_f, bnd_t, zg_in, zx, nI_ltI, nI_leI, nI_eq, nI_add, pk_mul, pk_sub, mup_s, mup_c, mup_j, mrw_c, if_pos, if_neg, zm_1, zm_2, zm_3, zm_4, zm_5, zm_6, zm_7, zm_8, zm_9, zf_0, zf_1, zf_2, zf_3, zf_4, zf_5, zf_6, zf_7, zf_8, zf_9, zf_10, zf_14, zf_15, zf_16, zf_18, zf_19, zf_20, zf_24, zf_30, zf_31, zf_32, zf_33, zf_99, zf_100, zf_160, zf_200, zf_287, zf_288, zf_300, zf_1000, zf_1023, zf_1024, zf_1600, zf_3840, zf_25600, zf_36000, zf_1000000, zf_1000000000, zf_2000000000, zf_11560, za_1, za_2, za_4, za_5, za_6, za_7, za_8, za_9, za_10, za_11, za_12, za_14, za_15, za_22, za_23, za_25, za_26, za_27, za_28, za_29, za_30, za_31, za_32, za_33, za_34, za_35, za_41, za_42, za_43, za_44, za_45, za_46, za_47, za_48, za_49, za_61, za_62, za_63, za_64, za_65, za_70, e3, e4]
      rw [calv_t g1]
      exact cal_t k1
    · intro s
      constructor
      · intro hs
        refine k6 (fun x => Rc (aR D) st x) ?_ ?_ s hs
        · intro x hx; rw [List.mem_singleton] at hx; rw [hx]; exact Rc.rf
        · intro j hj _ hP
          exact Rc.st hP (aR_at hj)
      · intro hs
        refine hs.cl (S := fun x => x ∈ Q) (k4 st (List.mem_singleton.mpr rfl)) ?_
        intro x y hx hr
        obtain ⟨j, hj, rfl, rfl⟩ := aR_of hr
        exact k5 j hj rfl hx
    · intro c hc
      rw [k3 c (by omega) (by omega), g3 c (by omega), o2 c hc]
