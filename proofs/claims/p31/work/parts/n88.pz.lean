def segA (U : ArL) (s : Nat) : Nat := lb U (pkA s 0 0 0)
def seg (U : ArL) (s : Nat) : ArL := (U.take (segA U (s + 1))).drop (segA U s)
def outs (U : ArL) (s : Nat) : List Nat := (seg U s).map (fun q => too q.1)
def bfs (U : ArL) : Nat → Nat → List Nat → List Nat
  | 0, _, Q => Q
  | f + 1, k, Q => match Q[k]? with
    | none => Q
    | some s => bfs U f (k + 1) ((outs U s).foldl addN Q)
def NQ (m : Mem) (n : Nat) (Q : List Nat) : Prop := Q.Nodup ∧ (∀ s, s ∈ Q → s < n) ∧ (∀ i q, Q[i]? = some q → m 9 i = nI q) ∧ ∀ s, s < n → m 12 s = if s ∈ Q then nI (ixo Q s) else nM
theorem NQ.len {m : Mem} {n : Nat} {Q : List Nat} (h : NQ m n Q) : Q.length ≤ n := nodup_bound h.1 h.2.1
theorem NQ.add {m : Mem} {n t : Nat} {Q : List Nat} (h : NQ m n Q) (ht : t < n) (hm : ¬ t ∈ Q) : NQ (mup (mup m 12 t (nI Q.length)) 9 Q.length (nI t)) n (Q ++ [t]) := by
  refine ⟨nodup_snoc h.1 hm, ?_, ?_, ?_⟩
  · intro s hs
    rcases List.mem_append.mp hs with e | e
    · exact h.2.1 s e
    · rw [List.mem_singleton] at e; rw [e]; exact ht
  · intro i q hq
    rcases snoc_get hq with ⟨h1, h2⟩ | ⟨h1, h2⟩
    · rw [mup_j (by omega), mup_c (by omega)]; exact h.2.2.1 i q h2
    · rw [h1, h2, mup_s]
  · intro s hs
    rw [mup_c (by omega), mup_if]
    by_cases e : s = t
    · rw [if_pos e, e, if_pos (List.mem_append.mpr (Or.inr (List.mem_singleton.mpr rfl))), ixo_new hm]
    · rw [if_neg e, h.2.2.2 s hs]
      by_cases hq : s ∈ Q
      · rw [if_pos hq, if_pos (List.mem_append.mpr (Or.inl hq)), ixo_app _ hq]
      · rw [if_neg hq, if_neg]
        rw [List.mem_append, List.mem_singleton]
        exact fun h => h.elim hq e
theorem lb_mono (L : ArL) {a b : Nat} (h : a ≤ b) : lb L a ≤ lb L b := by
  unfold lb
  apply List.countP_mono_left
  intro q _ hq
  have := of_decide_eq_true hq
  exact decide_eq_true (by omega)
theorem segA_mono (U : ArL) (s : Nat) : segA U s ≤ segA U (s + 1) := lb_mono U (by unfold pkA; omega)
theorem take_drop_snoc {L : ArL} {a i : Nat} {q : Nat × Nat} (ha : a ≤ i) (h : L[i]? = some q) : (L.take (i + 1)).drop a = (L.take i).drop a ++ [q] := by
  have hi := (List.getElem?_eq_some_iff.mp h).1
  rw [List.take_add_one, h, List.drop_append_of_le_length (by rw [List.length_take]; omega)]
  rfl
theorem num_in {N n k a : Nat} {rec : Mem → Int32 → Int32 → Option (Int32 × Mem)} {U : ArL} {b : Nat} {m0 : Mem} {Q0 : List Nat} (hn : n ≤ 1024) (hok : DOK n U) (hU : U.length ≤ 160) (hA : AR m0 13 U) (hk : k < 2000) (hb : b ≤ U.length) (hab : a ≤ b) (hN : 30000 < N) (hQ : NQ m0 n Q0) :
    ∃ m', L_X1_numberStates_89 N rec N m0 (nI Q0.length) (nI k) (nI b) (nI a) = rec m' (nI ((((U.take b).drop a).map (fun q => too q.1)).foldl addN Q0).length) (nI (k + 1)) ∧ NQ m' n ((((U.take b).drop a).map (fun q => too q.1)).foldl addN Q0) ∧ Two 9 12 m0 m' := by
  refine loopF (σ := Mem × List Nat) (fun f s i => L_X1_numberStates_89 N rec f s.1 (nI s.2.length) (nI k) (nI b) (nI i)) b
    (fun i s => a ≤ i ∧ s.2 = (((U.take i).drop a).map (fun q => too q.1)).foldl addN Q0 ∧ NQ s.1 n s.2 ∧ Two 9 12 m0 s.1)
    (fun o => ∃ m', o = rec m' (nI ((((U.take b).drop a).map (fun q => too q.1)).foldl addN Q0).length) (nI (k + 1)) ∧ NQ m' n ((((U.take b).drop a).map (fun q => too q.1)).foldl addN Q0) ∧ Two 9 12 m0 m')
    ?_ ?_ N a (m0, Q0) hab ⟨Nat.le_refl _, ?_, hQ, fun _ _ _ => rfl⟩ (by omega)
  · rintro f i ⟨m1, Q⟩ hi ⟨h0, h1, h2, h3⟩
    dsimp only at h0 h1 h2 h3
    obtain ⟨q, hq⟩ : ∃ q, U[i]? = some q := ⟨_, List.getElem?_eq_getElem (by omega)⟩
    have hqm := hok q (List.mem_of_getElem? hq)
    have hq1 := hqm.1
    have hq3 : q.1 % 1024 < n := hqm.2.2.1
    have e14 : m1 14 i = nI q.1 := (congrFun (h3 14 (by omega) (by omega)) i).trans (hA.2 i q hq).1
    have e12 := h2.2.2.2 _ hq3
    have hql := h2.len
    have hnx : (((U.take (i + 1)).drop a).map (fun q => too q.1)).foldl addN Q0 = addN Q (q.1 % 1024) := by
      rw [take_drop_snoc h0 hq, List.map_append, List.foldl_append, ← h1]
      rfl
    by_cases hm : q.1 % 1024 ∈ Q
    · rw [if_pos hm] at e12
      have hix := ixo_lt hm
      refine Or.inl ⟨(m1, Q), ⟨by show a ≤ i + 1; omega, ?_, h2, h3⟩, ?_⟩
      · show Q = _
        rw [hnx]; exact (if_pos hm).symm
      · show S_X1_numberStates_89 N rec (L_X1_numberStates_89 N rec f) m1 (nI Q.length) (nI k) (nI b) (nI i) = _
        unfold S_X1_numberStates_89 B_X1_numberStates_140
        simp (disch := omega) only [zi_t, zi_f, bnd_t, zg_in, zx, nI_ltI, nI_leI, nI_eq, nI_add, pk_mul, pk_sub, mup_s, mup_c, mup_j, mrw_c, if_pos, if_neg, zm_1, zm_2, zm_3, zm_4, zm_5, zm_6, zm_7, zm_8, zm_9, zf_0, zf_1, zf_2, zf_3, zf_4, zf_5, zf_6, zf_7, zf_8, zf_9, zf_10, zf_14, zf_15, zf_16, zf_18, zf_19, zf_20, zf_24, zf_30, zf_31, zf_32, zf_33, zf_99, zf_100, zf_160, zf_200, zf_287, zf_288, zf_300, zf_1000, zf_1023, zf_1024, zf_1600, zf_3840, zf_25600, zf_36000, zf_1000000, zf_1000000000, zf_2000000000, zf_11560, za_1, za_2, za_4, za_5, za_6, za_7, za_8, za_9, za_10, za_11, za_12, za_14, za_15, za_22, za_23, za_25, za_26, za_27, za_28, za_29, za_30, za_31, za_32, za_33, za_34, za_35, za_41, za_42, za_43, za_44, za_45, za_46, za_47, za_48, za_49, za_61, za_62, za_63, za_64, za_65, za_70, e14, pk_to, e12]
    · rw [if_neg hm] at e12
      have hlen : Q.length < n := by
        have := (h2.add hq3 hm).len
        rw [List.length_append, List.length_singleton] at this
        omega
      refine Or.inl ⟨(mup (mup m1 12 (q.1 % 1024) (nI Q.length)) 9 Q.length (nI (q.1 % 1024)), Q ++ [q.1 % 1024]), ⟨by show a ≤ i + 1; omega, ?_, h2.add hq3 hm, ?_⟩, ?_⟩
      · show Q ++ [q.1 % 1024] = _
        rw [hnx]; exact (if_neg hm).symm
      · intro c c1 c2
        show mup (mup m1 12 (q.1 % 1024) (nI Q.length)) 9 Q.length (nI (q.1 % 1024)) c = m0 c
        rw [mup_r c1, mup_r c2, h3 c c1 c2]
      · show S_X1_numberStates_89 N rec (L_X1_numberStates_89 N rec f) m1 (nI Q.length) (nI k) (nI b) (nI i) = L_X1_numberStates_89 N rec f _ (nI (Q ++ [q.1 % 1024]).length) (nI k) (nI b) (nI (i + 1))
        unfold S_X1_numberStates_89 B_X1_numberStates_140
        rw [List.length_append, List.length_singleton]
        simp (disch := omega) only [zi_t, zi_f, bnd_t, zg_in, zx, nI_ltI, nI_leI, nI_eq, nI_add, pk_mul, pk_sub, mup_s, mup_c, mup_j, mrw_c, if_pos, if_neg, zm_1, zm_2, zm_3, zm_4, zm_5, zm_6, zm_7, zm_8, zm_9, zf_0, zf_1, zf_2, zf_3, zf_4, zf_5, zf_6, zf_7, zf_8, zf_9, zf_10, zf_14, zf_15, zf_16, zf_18, zf_19, zf_20, zf_24, zf_30, zf_31, zf_32, zf_33, zf_99, zf_100, zf_160, zf_200, zf_287, zf_288, zf_300, zf_1000, zf_1023, zf_1024, zf_1600, zf_3840, zf_25600, zf_36000, zf_1000000, zf_1000000000, zf_2000000000, zf_11560, za_1, za_2, za_4, za_5, za_6, za_7, za_8, za_9, za_10, za_11, za_12, za_14, za_15, za_22, za_23, za_25, za_26, za_27, za_28, za_29, za_30, za_31, za_32, za_33, za_34, za_35, za_41, za_42, za_43, za_44, za_45, za_46, za_47, za_48, za_49, za_61, za_62, za_63, za_64, za_65, za_70, e14, pk_to, e12]
  · rintro f ⟨m1, Q⟩ ⟨h0, h1, h2, h3⟩
    dsimp only at h0 h1 h2 h3
    refine ⟨m1, ?_, by rw [← h1]; exact h2, h3⟩
    show S_X1_numberStates_89 N rec (L_X1_numberStates_89 N rec f) m1 (nI Q.length) (nI k) (nI b) (nI b) = _
    unfold S_X1_numberStates_89
    have hql := h2.len
    rw [← h1]
    simp (disch := omega) only [zi_t, zi_f, bnd_t, zg_in, zx, nI_ltI, nI_leI, nI_eq, nI_add, pk_mul, pk_sub, mup_s, mup_c, mup_j, mrw_c, if_pos, if_neg, zm_1, zm_2, zm_3, zm_4, zm_5, zm_6, zm_7, zm_8, zm_9, zf_0, zf_1, zf_2, zf_3, zf_4, zf_5, zf_6, zf_7, zf_8, zf_9, zf_10, zf_14, zf_15, zf_16, zf_18, zf_19, zf_20, zf_24, zf_30, zf_31, zf_32, zf_33, zf_99, zf_100, zf_160, zf_200, zf_287, zf_288, zf_300, zf_1000, zf_1023, zf_1024, zf_1600, zf_3840, zf_25600, zf_36000, zf_1000000, zf_1000000000, zf_2000000000, zf_11560, za_1, za_2, za_4, za_5, za_6, za_7, za_8, za_9, za_10, za_11, za_12, za_14, za_15, za_22, za_23, za_25, za_26, za_27, za_28, za_29, za_30, za_31, za_32, za_33, za_34, za_35, za_41, za_42, za_43, za_44, za_45, za_46, za_47, za_48, za_49, za_61, za_62, za_63, za_64, za_65, za_70]
  · show Q0 = _
    rw [List.drop_eq_nil_of_le (by rw [List.length_take]; omega)]
    rfl
theorem num_out {N n : Nat} {U : ArL} (hn : n ≤ 1024) (hok : DOK n U) (hs : Srt U) (hU : U.length ≤ 160) (hN : 30000 < N) :
    ∀ (d f k : Nat) (m0 : Mem) (Q0 : List Nat), k + d = 32 → d < f → AR m0 13 U → NQ m0 n Q0 →
      ∃ m', L_X1_numberStates_47 N f m0 (nI Q0.length) (nI k) = some (nI (bfs U d k Q0).length, m') ∧ NQ m' n (bfs U d k Q0) ∧ Two 9 12 m0 m' := by
  intro d
  induction d with
  | zero =>
    intro f k m0 Q0 hk hf hA hQ
    obtain ⟨f, rfl⟩ : ∃ g, f = g + 1 := ⟨f - 1, by omega⟩
    refine ⟨m0, ?_, hQ, fun _ _ _ => rfl⟩
    have hql := hQ.len
    show S_X1_numberStates_47 N (L_X1_numberStates_47 N f) m0 (nI Q0.length) (nI k) = _
    unfold S_X1_numberStates_47 B_X1_numberStates_152
    by_cases h : Q0.length ≤ k
    · simp (disch := omega) only [zi_t, zi_f, bnd_t, zg_in, zx, nI_ltI, nI_leI, nI_eq, nI_add, pk_mul, pk_sub, mup_s, mup_c, mup_j, mrw_c, if_pos, if_neg, zm_1, zm_2, zm_3, zm_4, zm_5, zm_6, zm_7, zm_8, zm_9, zf_0, zf_1, zf_2, zf_3, zf_4, zf_5, zf_6, zf_7, zf_8, zf_9, zf_10, zf_14, zf_15, zf_16, zf_18, zf_19, zf_20, zf_24, zf_30, zf_31, zf_32, zf_33, zf_99, zf_100, zf_160, zf_200, zf_287, zf_288, zf_300, zf_1000, zf_1023, zf_1024, zf_1600, zf_3840, zf_25600, zf_36000, zf_1000000, zf_1000000000, zf_2000000000, zf_11560, za_1, za_2, za_4, za_5, za_6, za_7, za_8, za_9, za_10, za_11, za_12, za_14, za_15, za_22, za_23, za_25, za_26, za_27, za_28, za_29, za_30, za_31, za_32, za_33, za_34, za_35, za_41, za_42, za_43, za_44, za_45, za_46, za_47, za_48, za_49, za_61, za_62, za_63, za_64, za_65, za_70]
      rfl
    · simp (disch := omega) only [zi_t, zi_f, bnd_t, zg_in, zx, nI_ltI, nI_leI, nI_eq, nI_add, pk_mul, pk_sub, mup_s, mup_c, mup_j, mrw_c, if_pos, if_neg, zm_1, zm_2, zm_3, zm_4, zm_5, zm_6, zm_7, zm_8, zm_9, zf_0, zf_1, zf_2, zf_3, zf_4, zf_5, zf_6, zf_7, zf_8, zf_9, zf_10, zf_14, zf_15, zf_16, zf_18, zf_19, zf_20, zf_24, zf_30, zf_31, zf_32, zf_33, zf_99, zf_100, zf_160, zf_200, zf_287, zf_288, zf_300, zf_1000, zf_1023, zf_1024, zf_1600, zf_3840, zf_25600, zf_36000, zf_1000000, zf_1000000000, zf_2000000000, zf_11560, za_1, za_2, za_4, za_5, za_6, za_7, za_8, za_9, za_10, za_11, za_12, za_14, za_15, za_22, za_23, za_25, za_26, za_27, za_28, za_29, za_30, za_31, za_32, za_33, za_34, za_35, za_41, za_42, za_43, za_44, za_45, za_46, za_47, za_48, za_49, za_61, za_62, za_63, za_64, za_65, za_70]
      rfl
  | succ d ih =>
    intro f k m0 Q0 hk hf hA hQ
    obtain ⟨f, rfl⟩ : ∃ g, f = g + 1 := ⟨f - 1, by omega⟩
    have hql := hQ.len
    show ∃ m', S_X1_numberStates_47 N (L_X1_numberStates_47 N f) m0 (nI Q0.length) (nI k) = _ ∧ _
    unfold S_X1_numberStates_47 B_X1_numberStates_152
    by_cases h : k < Q0.length
    · obtain ⟨s, hsq⟩ : ∃ s, Q0[k]? = some s := ⟨_, List.getElem?_eq_getElem h⟩
      have hsn := hQ.2.1 s (List.mem_of_getElem? hsq)
      have e9 := hQ.2.2.1 k s hsq
      have hb : bfs U (d + 1) k Q0 = bfs U d (k + 1) ((outs U s).foldl addN Q0) := by
        show (match Q0[k]? with | none => Q0 | some s => bfs U d (k + 1) ((outs U s).foldl addN Q0)) = _
        rw [hsq]
      have hf1 : F_X0_firstPlaceFrom N m0 13 (nI (s + 1)) = some (nI (segA U (s + 1)), m0) := by
        unfold F_X0_firstPlaceFrom
        simp (disch := omega) only [zi_t, zi_f, bnd_t, zg_in, zx, nI_ltI, nI_leI, nI_eq, nI_add, pk_mul, pk_sub, mup_s, mup_c, mup_j, mrw_c, if_pos, if_neg, zm_1, zm_2, zm_3, zm_4, zm_5, zm_6, zm_7, zm_8, zm_9, zf_0, zf_1, zf_2, zf_3, zf_4, zf_5, zf_6, zf_7, zf_8, zf_9, zf_10, zf_14, zf_15, zf_16, zf_18, zf_19, zf_20, zf_24, zf_30, zf_31, zf_32, zf_33, zf_99, zf_100, zf_160, zf_200, zf_287, zf_288, zf_300, zf_1000, zf_1023, zf_1024, zf_1600, zf_3840, zf_25600, zf_36000, zf_1000000, zf_1000000000, zf_2000000000, zf_11560, za_1, za_2, za_4, za_5, za_6, za_7, za_8, za_9, za_10, za_11, za_12, za_14, za_15, za_22, za_23, za_25, za_26, za_27, za_28, za_29, za_30, za_31, za_32, za_33, za_34, za_35, za_41, za_42, za_43, za_44, za_45, za_46, za_47, za_48, za_49, za_61, za_62, za_63, za_64, za_65, za_70, pk_packed]
        exact cal_t (pz_placeOf (by omega) rfl hA hs hok.sm hU (by unfold pkA; omega))
      have hf2 : F_X0_firstPlaceFrom N m0 13 (nI s) = some (nI (segA U s), m0) := by
        unfold F_X0_firstPlaceFrom
        simp (disch := omega) only [zi_t, zi_f, bnd_t, zg_in, zx, nI_ltI, nI_leI, nI_eq, nI_add, pk_mul, pk_sub, mup_s, mup_c, mup_j, mrw_c, if_pos, if_neg, zm_1, zm_2, zm_3, zm_4, zm_5, zm_6, zm_7, zm_8, zm_9, zf_0, zf_1, zf_2, zf_3, zf_4, zf_5, zf_6, zf_7, zf_8, zf_9, zf_10, zf_14, zf_15, zf_16, zf_18, zf_19, zf_20, zf_24, zf_30, zf_31, zf_32, zf_33, zf_99, zf_100, zf_160, zf_200, zf_287, zf_288, zf_300, zf_1000, zf_1023, zf_1024, zf_1600, zf_3840, zf_25600, zf_36000, zf_1000000, zf_1000000000, zf_2000000000, zf_11560, za_1, za_2, za_4, za_5, za_6, za_7, za_8, za_9, za_10, za_11, za_12, za_14, za_15, za_22, za_23, za_25, za_26, za_27, za_28, za_29, za_30, za_31, za_32, za_33, za_34, za_35, za_41, za_42, za_43, za_44, za_45, za_46, za_47, za_48, za_49, za_61, za_62, za_63, za_64, za_65, za_70, pk_packed]
        exact cal_t (pz_placeOf (by omega) rfl hA hs hok.sm hU (by unfold pkA; omega))
      obtain ⟨m1, g1, g2, g3⟩ := num_in (N := N) (k := k) (rec := L_X1_numberStates_47 N f) hn hok hU hA (by omega) (lb_le U _) (segA_mono U s) hN hQ
      obtain ⟨m2, k1, k2, k3⟩ := ih f (k + 1) m1 ((outs U s).foldl addN Q0) (by omega) (by omega) (hA.cg (g3 13 (by omega) (by omega)) (g3 14 (by omega) (by omega)) (g3 15 (by omega) (by omega))) g2
      rw [hb]
      refine ⟨m2, ?_, k2, fun c c1 c2 => by rw [k3 c c1 c2, g3 c c1 c2]⟩
      simp (disch := omega) only [zi_t, zi_f, bnd_t, zg_in, zx, nI_ltI, nI_leI, nI_eq, nI_add, pk_mul, pk_sub, mup_s, mup_c, mup_j, mrw_c, if_pos, if_neg, zm_1, zm_2, zm_3, zm_4, zm_5, zm_6, zm_7, zm_8, zm_9, zf_0, zf_1, zf_2, zf_3, zf_4, zf_5, zf_6, zf_7, zf_8, zf_9, zf_10, zf_14, zf_15, zf_16, zf_18, zf_19, zf_20, zf_24, zf_30, zf_31, zf_32, zf_33, zf_99, zf_100, zf_160, zf_200, zf_287, zf_288, zf_300, zf_1000, zf_1023, zf_1024, zf_1600, zf_3840, zf_25600, zf_36000, zf_1000000, zf_1000000000, zf_2000000000, zf_11560, za_1, za_2, za_4, za_5, za_6, za_7, za_8, za_9, za_10, za_11, za_12, za_14, za_15, za_22, za_23, za_25, za_26, za_27, za_28, za_29, za_30, za_31, za_32, za_33, za_34, za_35, za_41, za_42, za_43, za_44, za_45, za_46, za_47, za_48, za_49, za_61, za_62, za_63, za_64, za_65, za_70, e9]
      rw [cal_t hf1, e9, cal_t hf2]
      exact g1.trans k1
    · have hb : bfs U (d + 1) k Q0 = Q0 := by
        show (match Q0[k]? with | none => Q0 | some s => bfs U d (k + 1) ((outs U s).foldl addN Q0)) = _
        rw [List.getElem?_eq_none (by omega)]
      rw [hb]
      refine ⟨m0, ?_, hQ, fun _ _ _ => rfl⟩
      simp (disch := omega) only [zi_t, zi_f, bnd_t, zg_in, zx, nI_ltI, nI_leI, nI_eq, nI_add, pk_mul, pk_sub, mup_s, mup_c, mup_j, mrw_c, if_pos, if_neg, zm_1, zm_2, zm_3, zm_4, zm_5, zm_6, zm_7, zm_8, zm_9, zf_0, zf_1, zf_2, zf_3, zf_4, zf_5, zf_6, zf_7, zf_8, zf_9, zf_10, zf_14, zf_15, zf_16, zf_18, zf_19, zf_20, zf_24, zf_30, zf_31, zf_32, zf_33, zf_99, zf_100, zf_160, zf_200, zf_287, zf_288, zf_300, zf_1000, zf_1023, zf_1024, zf_1600, zf_3840, zf_25600, zf_36000, zf_1000000, zf_1000000000, zf_2000000000, zf_11560, za_1, za_2, za_4, za_5, za_6, za_7, za_8, za_9, za_10, za_11, za_12, za_14, za_15, za_22, za_23, za_25, za_26, za_27, za_28, za_29, za_30, za_31, za_32, za_33, za_34, za_35, za_41, za_42, za_43, za_44, za_45, za_46, za_47, za_48, za_49, za_61, za_62, za_63, za_64, za_65, za_70]
theorem dr_number {N n st : Nat} {m : Mem} {E : Nat → Bool} {D U : ArL} (hN : 30000 < N) (h : DR m n st E D) (hn : n ≤ 1024) (hst : st < n) (hok : DOK n U) (hs : Srt U) (hU : U.length ≤ 160) (hA : AR m 13 U) :
    ∃ m', F_X1_numberStates N m = some (nI (bfs U 32 0 [st]).length, m') ∧ NQ m' n (bfs U 32 0 [st]) ∧ Two 9 12 m m' := by
  unfold F_X1_numberStates
  refine loopF (fun f (m : Mem) i => L_X1_numberStates_2 N f m (nI i)) n (fun i m' => (∀ s, s < i → m' 12 s = nM) ∧ Two 9 12 m m') (fun o => ∃ m', o = some (nI (bfs U 32 0 [st]).length, m') ∧ NQ m' n (bfs U 32 0 [st]) ∧ Two 9 12 m m') ?_ ?_ N 0 m (Nat.zero_le _) ⟨fun s hs => by omega, fun _ _ _ => rfl⟩ (by omega)
  · rintro f i m1 hi ⟨h1, h2⟩
    have e3 := (congrFun (h2 3 (by omega) (by omega)) 3).trans h.1
    refine Or.inl ⟨mup m1 12 i nM, ⟨?_, fun c c1 c2 => by rw [mup_r c2, h2 c c1 c2]⟩, ?_⟩
    · intro s hs
      rw [mup_if]
      split
      · rfl
      · exact h1 s (by omega)
    · show S_X1_numberStates_2 N (L_X1_numberStates_2 N f) m1 (nI i) = _
      unfold S_X1_numberStates_2
      simp (disch := omega) only [zi_t, zi_f, bnd_t, zg_in, zx, nI_ltI, nI_leI, nI_eq, nI_add, pk_mul, pk_sub, mup_s, mup_c, mup_j, mrw_c, if_pos, if_neg, zm_1, zm_2, zm_3, zm_4, zm_5, zm_6, zm_7, zm_8, zm_9, zf_0, zf_1, zf_2, zf_3, zf_4, zf_5, zf_6, zf_7, zf_8, zf_9, zf_10, zf_14, zf_15, zf_16, zf_18, zf_19, zf_20, zf_24, zf_30, zf_31, zf_32, zf_33, zf_99, zf_100, zf_160, zf_200, zf_287, zf_288, zf_300, zf_1000, zf_1023, zf_1024, zf_1600, zf_3840, zf_25600, zf_36000, zf_1000000, zf_1000000000, zf_2000000000, zf_11560, za_1, za_2, za_4, za_5, za_6, za_7, za_8, za_9, za_10, za_11, za_12, za_14, za_15, za_22, za_23, za_25, za_26, za_27, za_28, za_29, za_30, za_31, za_32, za_33, za_34, za_35, za_41, za_42, za_43, za_44, za_45, za_46, za_47, za_48, za_49, za_61, za_62, za_63, za_64, za_65, za_70, e3]
  · rintro f m1 ⟨h1, h2⟩
    have e3 := (congrFun (h2 3 (by omega) (by omega)) 3).trans h.1
    have e4 := (congrFun (h2 3 (by omega) (by omega)) 4).trans h.2.1
    have q0 : NQ m1 n [] := ⟨List.nodup_nil, fun s hs => (by cases hs), fun i q hq => (by simp at hq), fun s hs => by rw [if_neg (by simp)]; exact h1 s hs⟩
    have q1 : NQ (mup (mup m1 12 st (nI 0)) 9 0 (nI st)) n [st] := q0.add hst (by simp)
    have hf : Two 9 12 m (mup (mup m1 12 st (nI 0)) 9 0 (nI st)) := fun c c1 c2 => by rw [mup_r c1, mup_r c2, h2 c c1 c2]
    obtain ⟨m2, k1, k2, k3⟩ := num_out hn hok hs hU hN 32 N 0 _ [st] (by omega) (by omega) (hA.cg (hf 13 (by omega) (by omega)) (hf 14 (by omega) (by omega)) (hf 15 (by omega) (by omega))) q1
    refine ⟨m2, ?_, k2, fun c c1 c2 => by rw [k3 c c1 c2, hf c c1 c2]⟩
    show S_X1_numberStates_2 N (L_X1_numberStates_2 N f) m1 (nI n) = _
    unfold S_X1_numberStates_2
    simp (disch := omega) only [zi_t, zi_f, bnd_t, zg_in, zx, nI_ltI, nI_leI, nI_eq, nI_add, pk_mul, pk_sub, mup_s, mup_c, mup_j, mrw_c, if_pos, if_neg, zm_1, zm_2, zm_3, zm_4, zm_5, zm_6, zm_7, zm_8, zm_9, zf_0, zf_1, zf_2, zf_3, zf_4, zf_5, zf_6, zf_7, zf_8, zf_9, zf_10, zf_14, zf_15, zf_16, zf_18, zf_19, zf_20, zf_24, zf_30, zf_31, zf_32, zf_33, zf_99, zf_100, zf_160, zf_200, zf_287, zf_288, zf_300, zf_1000, zf_1023, zf_1024, zf_1600, zf_3840, zf_25600, zf_36000, zf_1000000, zf_1000000000, zf_2000000000, zf_11560, za_1, za_2, za_4, za_5, za_6, za_7, za_8, za_9, za_10, za_11, za_12, za_14, za_15, za_22, za_23, za_25, za_26, za_27, za_28, za_29, za_30, za_31, za_32, za_33, za_34, za_35, za_41, za_42, za_43, za_44, za_45, za_46, za_47, za_48, za_49, za_61, za_62, za_63, za_64, za_65, za_70, e3, e4]
    exact k1
