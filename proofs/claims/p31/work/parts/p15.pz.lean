
/-! what the class answers -/
def CQ (o : Option ((Int32 ⊕ Nat) × Mem)) (m : Mem) (r : Int32 ⊕ Nat) (Ms : List Ma) (w : List Nat) (ls : Ls) : Prop := ∃ m1, o = some (r, m1) ∧ InC m1 Ms w ls ∧ ∀ k, 64 ≤ k → m1 k = m k
def Look (u : Bool) (n : Nat) (f : Nat → Bool) (L : ArL) (w : List Nat) (A : List (List Nat)) : Prop := A.length ≤ 20 ∧ A.Pairwise LexLt ∧ (∀ ρ, ρ ∈ A → ρ.length ≤ 287 ∧ (∀ z, z ∈ ρ → z < 8) ∧ AnU u n f L w ρ) ∧ (A.length < 20 → ∀ ρ, (∀ z, z ∈ ρ → z < 8) → AnU u n f L w ρ → ρ ∈ A)
theorem cq_of {o : Option ((Int32 ⊕ Nat) × Mem)} {m m1 : Mem} {r : Int32 ⊕ Nat} {Ms : List Ma} {w : List Nat} {ls : Ls} (hC : InC m Ms w ls) (ho : Off 40 50 m m1) (h : o = some (r, m1)) : CQ o m r Ms w ls := ⟨m1, h, hC.o4 ho, fun k hk => ho k (by omega)⟩
theorem as_look {Ms : List Ma} {w : List Nat} {ls : Ls} {i n : Nat} {u : Bool} {f : Nat → Bool} {L : ArL} (hV : InV Ms w ls) (gA : Ms[i]? = some (n, f, L)) :
    ∃ (A : List (List Nat)) (β : List Nat) (ck : Int32), Look u n f L w A ∧ (A ≠ [] → A.length = 20 ∨ β ∈ A) ∧ ((A = [] ∧ ck = nM) ∨ (A ≠ [] ∧ ∃ v, v < 2 ^ 30 ∧ ck = nI v)) ∧ (∀ p, ltP β p ≤ 8) ∧ ∀ N m, 40000 < N → InC m Ms w ls →
      CQ (F_X7_answers N m (nI i) (bI u)) m (.inl (nI A.length)) Ms w ls ∧ (∀ t p, t < 20 → p < 2 ^ 31 → CQ (F_X7_answer N m (nI i) (bI u) (nI t) (nI p)) m (.inl (if t < A.length then nI (ltP (A.getD t []) p) else nM)) Ms w ls) ∧
      CQ (F_X7_cost N m (nI i) (bI u)) m (.inl ck) Ms w ls ∧ ∀ p, p < 2 ^ 31 → CQ (F_X7_best N m (nI i) (bI u) (nI p)) m (.inl (if A = [] then nM else nI (ltP β p))) Ms w ls := by
  have v1 := hV.1
  have hi := (List.getElem?_eq_some_iff.mp gA).1
  have hVM := hV.2.1 _ (List.mem_of_getElem? gA)
  obtain ⟨a1, a2, a3, a4, a5, a6, a7⟩ := hVM
  have v3 := hV.2.2.1
  have v4 := hV.2.2.2.1
  obtain ⟨δ, hδ⟩ := isd_ex (En := En n f w) (eg_bd (way := wU u) (w := w) v3 a2 a5)
  have hlook : ∀ N m, 40000 < N → InC m Ms w ls → ∃ m1, F_X7_lookUp N m (nI i) (bI u) = some m1 ∧ SL m1 (200 + 4 * i) (wU u) n f L w δ ∧ Off 40 50 m m1 := by
    intro N m hN hC
    obtain ⟨m1, g1, g2, g3, g4⟩ := cl_look (N := N) (u := u) (by omega) hV hC hi gA hδ
    exact ⟨m1, g1, g2, fun k hk => g4 k (by omega)⟩
  by_cases h0 : δ 0 < 1000000000
  · obtain ⟨vi, an, hv, hvi, han⟩ := look_ex ⟨a1, a2, a3, a4, a5, a6, a7⟩ v3 hδ h0 false
    have hv0 : vi [] = true := (hvi []).mpr ⟨0, rfl⟩
    obtain ⟨vb, ab, hvb, hvib, hanb⟩ := look_ex ⟨a1, a2, a3, a4, a5, a6, a7⟩ v3 hδ h0 true
    have hvb0 : vb [] = true := (hvib []).mpr ⟨0, rfl⟩
    obtain ⟨Λ, l1, l2, l3, l4⟩ := list_ex hv hv0
    obtain ⟨Λb, b1, b2, b3, b4⟩ := list_ex hvb hvb0
    obtain ⟨Fb, rb, hFb, hwb⟩ := walk_ex (S := 1) hvb hvb0 (by omega)
    have hrb : 1 ≤ rb.1 := walk_one hvb Fb Fb [] rb (Nat.le_refl _) hwb hvb0
    obtain ⟨c1, c2⟩ := b1 1 Fb rb (Nat.le_refl _) hwb
    have hrbm : rb.2 ∈ Λb := by
      cases e : Λb[1 - 1]? with
      | none =>
        have := List.getElem?_eq_none_iff.mp e
        have := c1 (by omega)
        omega
      | some τ =>
        rw [c2 τ e]
        exact List.mem_of_getElem? e
    obtain ⟨d1, d2, d3⟩ := b3 _ hrbm
    have hβ : AnU u n f L w rb.2 := an_to a5 a2 d3 ((hanb _).mp d1)
    have hanv : ∀ ρ, an ρ = true → vi ρ = true := fun ρ h => by
      obtain ⟨s, _, _, a0, k1, _⟩ := (han ρ).mp h
      exact (hvi ρ).mpr ⟨a0, k1⟩
    have hΛ : ∀ ρ, (∀ z, z ∈ ρ → z < 8) → AnU u n f L w ρ → ρ ∈ Λ := fun ρ hz h => by
      have ha := (han ρ).mpr (an_of hδ h)
      exact l4 ρ hz (hanv ρ ha) ha
    have hβΛ := hΛ _ d3 hβ
    have hlen : (Λ.take 20).length = min 20 Λ.length := List.length_take
    have hpos : 1 ≤ Λ.length := List.length_pos_of_mem hβΛ
    have hne : Λ.take 20 ≠ [] := fun h => by
      rw [h] at hlen
      have hlen : 0 = min 20 Λ.length := hlen
      omega
    have hbl : ∀ p, ltP rb.2 p ≤ 8 := by
      intro p
      unfold ltP
      split
      · rename_i hp
        rw [List.getD_eq_getElem?_getD, List.getElem?_eq_getElem (by omega)]
        exact Nat.le_of_lt (d3 _ (List.getElem_mem _))
      · exact Nat.le_refl _
    have hδ0 := hδ.le (eg_bd (way := wU u) (w := w) v3 a2 a5) 0
    refine ⟨Λ.take 20, rb.2, nI (δ 0), ⟨by omega, l2.take, fun ρ hρ => ?_, fun hl ρ hz h => ?_⟩, fun _ => ?_, Or.inr ⟨hne, δ 0, by omega, rfl⟩, hbl, fun N m hN hC => ⟨?_, fun t p ht hp => ?_, ?_, fun p hp => ?_⟩⟩
    · obtain ⟨e1, e2, e3⟩ := l3 ρ (List.mem_of_mem_take hρ)
      exact ⟨hv.1 ρ e2, e3, an_to a5 a2 e3 ((han ρ).mp e1)⟩
    · have e : Λ.take 20 = Λ := List.take_of_length_le (by omega)
      rw [e]
      exact hΛ ρ hz h
    · rcases Nat.lt_or_ge Λ.length 20 with e | e
      · right
        rw [List.take_of_length_le (by omega)]
        exact hβΛ
      · left; omega
    · obtain ⟨F, res, hF, hw⟩ := walk_ex (S := 20) hv hv0 (by omega)
      obtain ⟨e1, e2⟩ := l1 20 F res (by omega) hw
      obtain ⟨m1, g1, g2, g4⟩ := hlook N m hN hC
      obtain ⟨m2, k1, k2, k3⟩ := cl_find (N := N) (S := 20) (ch := false) (by omega) (by omega) (by omega) (kn3 (by omega)) g2 a5 a3 a1 a2 (wU_lt u).2 v3 v4 hv hvi han (by omega) (by omega) h0 hw
      have o : Off 40 50 m m2 := fun c hc => by rw [k2 c hc, g4 c (by omega)]
      have er : res.1 = (Λ.take 20).length := by
        rw [hlen]
        rcases Nat.lt_or_ge Λ.length 20 with e | e
        · have := e1 e; omega
        · have := e2 _ (List.getElem?_eq_getElem (show 20 - 1 < Λ.length by omega))
          rw [this]
          show 20 = _
          omega
      rw [← er]
      refine cq_of hC o ?_
      unfold F_X7_answers
      rw [calx_t (need_ok hC v1 hi), calv_t g1]
      exact cal_t k1
    · obtain ⟨F, res, hF, hw⟩ := walk_ex (S := t + 1) hv hv0 (by omega)
      obtain ⟨w1, w2, w3⟩ := walk_inv hv.2.2 F [] 0 _ res hw hv0 (by split <;> omega)
      have hlen2 := hv.1 _ w1
      obtain ⟨e1, e2⟩ := l1 (t + 1) F res (by omega) hw
      obtain ⟨m1, g1, g2, g4⟩ := hlook N m hN hC
      obtain ⟨m2, k1, k2, k3⟩ := cl_find (N := N) (S := t + 1) (ch := false) (by omega) (by omega) (by omega) (kn3 (by omega)) g2 a5 a3 a1 a2 (wU_lt u).2 v3 v4 hv hvi han (by omega) (by omega) h0 hw
      have o : Off 40 50 m m2 := fun c hc => by rw [k2 c hc, g4 c (by omega)]
      have er : (if t < (Λ.take 20).length then nI (ltP ((Λ.take 20).getD t []) p) else nM) = (if t + 1 ≤ res.1 then nI (ltP res.2 p) else nM) := by
        rw [hlen]
        rcases Nat.lt_or_ge t Λ.length with e | e
        · have := e2 _ (List.getElem?_eq_getElem (show t + 1 - 1 < Λ.length by omega))
          rw [this, if_pos (by omega), if_pos (Nat.le_refl _)]
          have : (Λ.take 20).getD t [] = Λ[t + 1 - 1] := by
            rw [List.getD_eq_getElem?_getD, List.getElem?_take, if_pos ht, List.getElem?_eq_getElem e]
            rfl
          rw [this]
        · have := e1 (by omega)
          rw [if_neg (by omega), if_neg (by omega)]
      rw [er]
      refine cq_of hC o ?_
      have k1 : F_X4_find N m1 (nI (t + 1)) (nI 0) = some (nI res.1, m2) := k1
      unfold F_X7_answer
      rw [calx_t (need_ok hC v1 hi), calx_t (plc_ok hp)]
      simp (disch := omega) only [zi_t, zi_f, bnd_t, zg_in, zx, nI_ltI, nI_leI, nI_eq, nI_add, pk_mul, pk_sub, mup_s, mup_c, mup_j, mrw_c, if_pos, if_neg, zm_1, zm_2, zm_3, zm_4, zm_5, zm_6, zm_7, zm_8, zm_9, zf_0, zf_1, zf_2, zf_3, zf_4, zf_5, zf_6, zf_7, zf_8, zf_9, zf_10, zf_14, zf_15, zf_16, zf_18, zf_19, zf_20, zf_24, zf_30, zf_31, zf_32, zf_33, zf_99, zf_100, zf_160, zf_200, zf_287, zf_288, zf_300, zf_1000, zf_1023, zf_1024, zf_1600, zf_3840, zf_25600, zf_36000, zf_1000000, zf_1000000000, zf_2000000000, zf_11560, za_1, za_2, za_4, za_5, za_6, za_7, za_8, za_9, za_10, za_11, za_12, za_14, za_15, za_22, za_23, za_25, za_26, za_27, za_28, za_29, za_30, za_31, za_32, za_33, za_34, za_35, za_41, za_42, za_43, za_44, za_45, za_46, za_47, za_48, za_49, za_61, za_62, za_63, za_64, za_65, za_70]
      rw [calv_t g1]
      try simp (disch := omega) only [zi_t, zi_f, bnd_t, zg_in, zx, nI_ltI, nI_leI, nI_eq, nI_add, pk_mul, pk_sub, mup_s, mup_c, mup_j, mrw_c, if_pos, if_neg, zm_1, zm_2, zm_3, zm_4, zm_5, zm_6, zm_7, zm_8, zm_9, zf_0, zf_1, zf_2, zf_3, zf_4, zf_5, zf_6, zf_7, zf_8, zf_9, zf_10, zf_14, zf_15, zf_16, zf_18, zf_19, zf_20, zf_24, zf_30, zf_31, zf_32, zf_33, zf_99, zf_100, zf_160, zf_200, zf_287, zf_288, zf_300, zf_1000, zf_1023, zf_1024, zf_1600, zf_3840, zf_25600, zf_36000, zf_1000000, zf_1000000000, zf_2000000000, zf_11560, za_1, za_2, za_4, za_5, za_6, za_7, za_8, za_9, za_10, za_11, za_12, za_14, za_15, za_22, za_23, za_25, za_26, za_27, za_28, za_29, za_30, za_31, za_32, za_33, za_34, za_35, za_41, za_42, za_43, za_44, za_45, za_46, za_47, za_48, za_49, za_61, za_62, za_63, za_64, za_65, za_70]
      rw [cal_t k1]
      by_cases c : t + 1 ≤ res.1
      · obtain ⟨q1, q2⟩ := k3 c
        rw [if_pos c]
        simp (disch := omega) only [zi_t, zi_f, bnd_t, zg_in, zx, nI_ltI, nI_leI, nI_eq, nI_add, pk_mul, pk_sub, mup_s, mup_c, mup_j, mrw_c, if_pos, if_neg, zm_1, zm_2, zm_3, zm_4, zm_5, zm_6, zm_7, zm_8, zm_9, zf_0, zf_1, zf_2, zf_3, zf_4, zf_5, zf_6, zf_7, zf_8, zf_9, zf_10, zf_14, zf_15, zf_16, zf_18, zf_19, zf_20, zf_24, zf_30, zf_31, zf_32, zf_33, zf_99, zf_100, zf_160, zf_200, zf_287, zf_288, zf_300, zf_1000, zf_1023, zf_1024, zf_1600, zf_3840, zf_25600, zf_36000, zf_1000000, zf_1000000000, zf_2000000000, zf_11560, za_1, za_2, za_4, za_5, za_6, za_7, za_8, za_9, za_10, za_11, za_12, za_14, za_15, za_22, za_23, za_25, za_26, za_27, za_28, za_29, za_30, za_31, za_32, za_33, za_34, za_35, za_41, za_42, za_43, za_44, za_45, za_46, za_47, za_48, za_49, za_61, za_62, za_63, za_64, za_65, za_70]
        rw [cal_t (cl_foundLetter q2 q1 hlen2 hp)]
      · rw [if_neg c]
        simp (disch := omega) only [zi_t, zi_f, bnd_t, zg_in, zx, nI_ltI, nI_leI, nI_eq, nI_add, pk_mul, pk_sub, mup_s, mup_c, mup_j, mrw_c, if_pos, if_neg, zm_1, zm_2, zm_3, zm_4, zm_5, zm_6, zm_7, zm_8, zm_9, zf_0, zf_1, zf_2, zf_3, zf_4, zf_5, zf_6, zf_7, zf_8, zf_9, zf_10, zf_14, zf_15, zf_16, zf_18, zf_19, zf_20, zf_24, zf_30, zf_31, zf_32, zf_33, zf_99, zf_100, zf_160, zf_200, zf_287, zf_288, zf_300, zf_1000, zf_1023, zf_1024, zf_1600, zf_3840, zf_25600, zf_36000, zf_1000000, zf_1000000000, zf_2000000000, zf_11560, za_1, za_2, za_4, za_5, za_6, za_7, za_8, za_9, za_10, za_11, za_12, za_14, za_15, za_22, za_23, za_25, za_26, za_27, za_28, za_29, za_30, za_31, za_32, za_33, za_34, za_35, za_41, za_42, za_43, za_44, za_45, za_46, za_47, za_48, za_49, za_61, za_62, za_63, za_64, za_65, za_70]
    · obtain ⟨m1, g1, g2, g4⟩ := hlook N m hN hC
      refine cq_of hC g4 ?_
      unfold F_X7_cost
      rw [calx_t (need_ok hC v1 hi), calv_t g1, cal_t (cl_least g2 a1), if_pos h0]
    · obtain ⟨w1, w2, w3⟩ := walk_inv hvb.2.2 Fb [] 0 _ rb hwb hvb0 (by split <;> omega)
      have hlen2 := hvb.1 _ w1
      obtain ⟨m1, g1, g2, g4⟩ := hlook N m hN hC
      obtain ⟨m2, k1, k2, k3⟩ := cl_find (N := N) (S := 1) (ch := true) (by omega) (by omega) (by omega) (kn3 (by omega)) g2 a5 a3 a1 a2 (wU_lt u).2 v3 v4 hvb hvib hanb (by omega) (by omega) h0 hwb
      have o : Off 40 50 m m2 := fun c hc => by rw [k2 c hc, g4 c (by omega)]
      rw [if_neg hne]
      refine cq_of hC o ?_
      have k1 : F_X4_find N m1 (nI 1) (nI 1) = some (nI rb.1, m2) := k1
      obtain ⟨q1, q2⟩ := k3 hrb
      unfold F_X7_best B_X7_best_39
      rw [calx_t (need_ok hC v1 hi), calx_t (plc_ok hp), calv_t g1]
      simp (disch := omega) only [zi_t, zi_f, bnd_t, zg_in, zx, nI_ltI, nI_leI, nI_eq, nI_add, pk_mul, pk_sub, mup_s, mup_c, mup_j, mrw_c, if_pos, if_neg, zm_1, zm_2, zm_3, zm_4, zm_5, zm_6, zm_7, zm_8, zm_9, zf_0, zf_1, zf_2, zf_3, zf_4, zf_5, zf_6, zf_7, zf_8, zf_9, zf_10, zf_14, zf_15, zf_16, zf_18, zf_19, zf_20, zf_24, zf_30, zf_31, zf_32, zf_33, zf_99, zf_100, zf_160, zf_200, zf_287, zf_288, zf_300, zf_1000, zf_1023, zf_1024, zf_1600, zf_3840, zf_25600, zf_36000, zf_1000000, zf_1000000000, zf_2000000000, zf_11560, za_1, za_2, za_4, za_5, za_6, za_7, za_8, za_9, za_10, za_11, za_12, za_14, za_15, za_22, za_23, za_25, za_26, za_27, za_28, za_29, za_30, za_31, za_32, za_33, za_34, za_35, za_41, za_42, za_43, za_44, za_45, za_46, za_47, za_48, za_49, za_61, za_62, za_63, za_64, za_65, za_70]
      rw [cal_t k1]
      simp (disch := omega) only [zi_t, zi_f, bnd_t, zg_in, zx, nI_ltI, nI_leI, nI_eq, nI_add, pk_mul, pk_sub, mup_s, mup_c, mup_j, mrw_c, if_pos, if_neg, zm_1, zm_2, zm_3, zm_4, zm_5, zm_6, zm_7, zm_8, zm_9, zf_0, zf_1, zf_2, zf_3, zf_4, zf_5, zf_6, zf_7, zf_8, zf_9, zf_10, zf_14, zf_15, zf_16, zf_18, zf_19, zf_20, zf_24, zf_30, zf_31, zf_32, zf_33, zf_99, zf_100, zf_160, zf_200, zf_287, zf_288, zf_300, zf_1000, zf_1023, zf_1024, zf_1600, zf_3840, zf_25600, zf_36000, zf_1000000, zf_1000000000, zf_2000000000, zf_11560, za_1, za_2, za_4, za_5, za_6, za_7, za_8, za_9, za_10, za_11, za_12, za_14, za_15, za_22, za_23, za_25, za_26, za_27, za_28, za_29, za_30, za_31, za_32, za_33, za_34, za_35, za_41, za_42, za_43, za_44, za_45, za_46, za_47, za_48, za_49, za_61, za_62, za_63, za_64, za_65, za_70]
      rw [cal_t (cl_foundLetter q2 q1 hlen2 hp)]
  · refine ⟨[], [], nM, ⟨by simp, List.Pairwise.nil, fun ρ hρ => (by cases hρ), fun _ ρ hz h => absurd (an_fin hδ h) h0⟩, fun h => absurd rfl h, Or.inl ⟨rfl, rfl⟩, fun p => by rw [ltP_end _ (Nat.zero_le _)]; exact Nat.le_refl _, fun N m hN hC => ⟨?_, fun t p ht hp => ?_, ?_, fun p hp => ?_⟩⟩
    · obtain ⟨m1, g1, g2, g4⟩ := hlook N m hN hC
      obtain ⟨m2, k1, k2⟩ := cl_find0 (N := N) (S := 20) (ch := false) g2 a1 h0
      refine cq_of hC (m1 := m2) (fun c hc => by rw [k2 c hc, g4 c (by omega)]) ?_
      unfold F_X7_answers
      rw [calx_t (need_ok hC v1 hi), calv_t g1]
      exact cal_t k1
    · obtain ⟨m1, g1, g2, g4⟩ := hlook N m hN hC
      obtain ⟨m2, k1, k2⟩ := cl_find0 (N := N) (S := t + 1) (ch := false) g2 a1 h0
      rw [if_neg (by simp)]
      refine cq_of hC (m1 := m2) (fun c hc => by rw [k2 c hc, g4 c (by omega)]) ?_
      have k1 : F_X4_find N m1 (nI (t + 1)) (nI 0) = some (nI 0, m2) := k1
      unfold F_X7_answer
      rw [calx_t (need_ok hC v1 hi), calx_t (plc_ok hp)]
      simp (disch := omega) only [zi_t, zi_f, bnd_t, zg_in, zx, nI_ltI, nI_leI, nI_eq, nI_add, pk_mul, pk_sub, mup_s, mup_c, mup_j, mrw_c, if_pos, if_neg, zm_1, zm_2, zm_3, zm_4, zm_5, zm_6, zm_7, zm_8, zm_9, zf_0, zf_1, zf_2, zf_3, zf_4, zf_5, zf_6, zf_7, zf_8, zf_9, zf_10, zf_14, zf_15, zf_16, zf_18, zf_19, zf_20, zf_24, zf_30, zf_31, zf_32, zf_33, zf_99, zf_100, zf_160, zf_200, zf_287, zf_288, zf_300, zf_1000, zf_1023, zf_1024, zf_1600, zf_3840, zf_25600, zf_36000, zf_1000000, zf_1000000000, zf_2000000000, zf_11560, za_1, za_2, za_4, za_5, za_6, za_7, za_8, za_9, za_10, za_11, za_12, za_14, za_15, za_22, za_23, za_25, za_26, za_27, za_28, za_29, za_30, za_31, za_32, za_33, za_34, za_35, za_41, za_42, za_43, za_44, za_45, za_46, za_47, za_48, za_49, za_61, za_62, za_63, za_64, za_65, za_70]
      rw [calv_t g1]
      try simp (disch := omega) only [zi_t, zi_f, bnd_t, zg_in, zx, nI_ltI, nI_leI, nI_eq, nI_add, pk_mul, pk_sub, mup_s, mup_c, mup_j, mrw_c, if_pos, if_neg, zm_1, zm_2, zm_3, zm_4, zm_5, zm_6, zm_7, zm_8, zm_9, zf_0, zf_1, zf_2, zf_3, zf_4, zf_5, zf_6, zf_7, zf_8, zf_9, zf_10, zf_14, zf_15, zf_16, zf_18, zf_19, zf_20, zf_24, zf_30, zf_31, zf_32, zf_33, zf_99, zf_100, zf_160, zf_200, zf_287, zf_288, zf_300, zf_1000, zf_1023, zf_1024, zf_1600, zf_3840, zf_25600, zf_36000, zf_1000000, zf_1000000000, zf_2000000000, zf_11560, za_1, za_2, za_4, za_5, za_6, za_7, za_8, za_9, za_10, za_11, za_12, za_14, za_15, za_22, za_23, za_25, za_26, za_27, za_28, za_29, za_30, za_31, za_32, za_33, za_34, za_35, za_41, za_42, za_43, za_44, za_45, za_46, za_47, za_48, za_49, za_61, za_62, za_63, za_64, za_65, za_70]
      rw [cal_t k1]
      simp (disch := omega) only [zi_t, zi_f, bnd_t, zg_in, zx, nI_ltI, nI_leI, nI_eq, nI_add, pk_mul, pk_sub, mup_s, mup_c, mup_j, mrw_c, if_pos, if_neg, zm_1, zm_2, zm_3, zm_4, zm_5, zm_6, zm_7, zm_8, zm_9, zf_0, zf_1, zf_2, zf_3, zf_4, zf_5, zf_6, zf_7, zf_8, zf_9, zf_10, zf_14, zf_15, zf_16, zf_18, zf_19, zf_20, zf_24, zf_30, zf_31, zf_32, zf_33, zf_99, zf_100, zf_160, zf_200, zf_287, zf_288, zf_300, zf_1000, zf_1023, zf_1024, zf_1600, zf_3840, zf_25600, zf_36000, zf_1000000, zf_1000000000, zf_2000000000, zf_11560, za_1, za_2, za_4, za_5, za_6, za_7, za_8, za_9, za_10, za_11, za_12, za_14, za_15, za_22, za_23, za_25, za_26, za_27, za_28, za_29, za_30, za_31, za_32, za_33, za_34, za_35, za_41, za_42, za_43, za_44, za_45, za_46, za_47, za_48, za_49, za_61, za_62, za_63, za_64, za_65, za_70]
    · obtain ⟨m1, g1, g2, g4⟩ := hlook N m hN hC
      refine cq_of hC g4 ?_
      unfold F_X7_cost
      rw [calx_t (need_ok hC v1 hi), calv_t g1, cal_t (cl_least g2 a1), if_neg h0]
    · obtain ⟨m1, g1, g2, g4⟩ := hlook N m hN hC
      obtain ⟨m2, k1, k2⟩ := cl_find0 (N := N) (S := 1) (ch := true) g2 a1 h0
      rw [if_pos rfl]
      refine cq_of hC (m1 := m2) (fun c hc => by rw [k2 c hc, g4 c (by omega)]) ?_
      have k1 : F_X4_find N m1 (nI 1) (nI 1) = some (nI 0, m2) := k1
      unfold F_X7_best B_X7_best_39
      rw [calx_t (need_ok hC v1 hi), calx_t (plc_ok hp), calv_t g1]
      simp (disch := omega) only [zi_t, zi_f, bnd_t, zg_in, zx, nI_ltI, nI_leI, nI_eq, nI_add, pk_mul, pk_sub, mup_s, mup_c, mup_j, mrw_c, if_pos, if_neg, zm_1, zm_2, zm_3, zm_4, zm_5, zm_6, zm_7, zm_8, zm_9, zf_0, zf_1, zf_2, zf_3, zf_4, zf_5, zf_6, zf_7, zf_8, zf_9, zf_10, zf_14, zf_15, zf_16, zf_18, zf_19, zf_20, zf_24, zf_30, zf_31, zf_32, zf_33, zf_99, zf_100, zf_160, zf_200, zf_287, zf_288, zf_300, zf_1000, zf_1023, zf_1024, zf_1600, zf_3840, zf_25600, zf_36000, zf_1000000, zf_1000000000, zf_2000000000, zf_11560, za_1, za_2, za_4, za_5, za_6, za_7, za_8, za_9, za_10, za_11, za_12, za_14, za_15, za_22, za_23, za_25, za_26, za_27, za_28, za_29, za_30, za_31, za_32, za_33, za_34, za_35, za_41, za_42, za_43, za_44, za_45, za_46, za_47, za_48, za_49, za_61, za_62, za_63, za_64, za_65, za_70]
      rw [cal_t k1]
      simp (disch := omega) only [zi_t, zi_f, bnd_t, zg_in, zx, nI_ltI, nI_leI, nI_eq, nI_add, pk_mul, pk_sub, mup_s, mup_c, mup_j, mrw_c, if_pos, if_neg, zm_1, zm_2, zm_3, zm_4, zm_5, zm_6, zm_7, zm_8, zm_9, zf_0, zf_1, zf_2, zf_3, zf_4, zf_5, zf_6, zf_7, zf_8, zf_9, zf_10, zf_14, zf_15, zf_16, zf_18, zf_19, zf_20, zf_24, zf_30, zf_31, zf_32, zf_33, zf_99, zf_100, zf_160, zf_200, zf_287, zf_288, zf_300, zf_1000, zf_1023, zf_1024, zf_1600, zf_3840, zf_25600, zf_36000, zf_1000000, zf_1000000000, zf_2000000000, zf_11560, za_1, za_2, za_4, za_5, za_6, za_7, za_8, za_9, za_10, za_11, za_12, za_14, za_15, za_22, za_23, za_25, za_26, za_27, za_28, za_29, za_30, za_31, za_32, za_33, za_34, za_35, za_41, za_42, za_43, za_44, za_45, za_46, za_47, za_48, za_49, za_61, za_62, za_63, za_64, za_65, za_70]
