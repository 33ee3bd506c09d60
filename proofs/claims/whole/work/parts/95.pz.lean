theorem cl_all {D : ArL} {E : Nat → Bool} {n st : Nat} {W Q : List Nat} (hW : WS D E n st W) (hok : DOK n D) (hst : st ∈ Q) (hcl : ∀ s t, s ∈ Q → t ∈ outs (usA D W) s → t ∈ Q) : ∀ s, s ∈ W → s ∈ Q := by
  intro s hs
  have hsw := (hW.2 s).mp hs
  have hb : ∀ x, Rc (aR D) st x → Rc (aR D) st x ∧ (x ∈ W → x ∈ Q) := by
    intro x hx
    refine hx.cl (S := fun x => Rc (aR D) st x ∧ (x ∈ W → x ∈ Q)) ⟨Rc.rf, fun _ => hst⟩ ?_
    rintro x y ⟨h1, h2⟩ hr
    refine ⟨h1.st hr, fun hy => ?_⟩
    obtain ⟨q, hq, e1, e2⟩ := hr
    obtain ⟨_, _, e, he, hE, hre⟩ := (hW.2 y).mp hy
    have hxW : x ∈ W := (hW.2 x).mpr ⟨by rw [← e1]; exact (hok q hq).2.1, h1, e, he, hE, Rc.hd ⟨q, hq, e1, e2⟩ hre⟩
    obtain ⟨k, hk⟩ := usA_has (W := W) hq (by rw [e1]; exact hxW) (by rw [e2]; exact hy)
    exact hcl x y (h2 hxW) ((outs_mem (insL_srt _)).mpr ⟨(q.1, k), hk, e1, e2⟩)
  exact (hb s hsw.2.1).2 hs
theorem srt_nodup {L : ArL} (h : Srt L) : L.Nodup := h.imp (fun {a b} hab e => by rw [e] at hab; exact Nat.lt_irrefl _ hab)
/-- the ends, at last -/
theorem trim_ends {N : Nat} {E : Nat → Bool} {D : ArL} {m : Mem} {Q : List Nat} (hN : 40000 < N) (hMW : MW m E D) (hQ : NM m Q) (hl : Q.length ≤ 32) :
    ∃ m', B_X8_trims_265 N m (nI 1) = some (nI 1, m') ∧ m' 70 27 = eB (endQ E Q) Q.length ∧ Fx 85 85 [27] m m' := by
  unfold B_X8_trims_265
  simp (disch := omega) only [zi_t, zi_f, bnd_t, zg_in, zx, nI_ltI, nI_leI, nI_eq, nI_add, pk_mul, pk_sub, mup_s, mup_c, mup_j, mrw_c, if_pos, if_neg, zm_1, zm_2, zm_3, zm_4, zm_5, zm_6, zm_7, zm_8, zm_9, zf_0, zf_1, zf_2, zf_3, zf_4, zf_5, zf_6, zf_7, zf_8, zf_9, zf_10, zf_14, zf_15, zf_16, zf_18, zf_19, zf_20, zf_24, zf_30, zf_31, zf_32, zf_33, zf_99, zf_100, zf_160, zf_200, zf_287, zf_288, zf_300, zf_1000, zf_1023, zf_1024, zf_1600, zf_3840, zf_25600, zf_36000, zf_1000000, zf_1000000000, zf_2000000000, zf_11560, za_1, za_2, za_4, za_5, za_6, za_7, za_8, za_9, za_10, za_11, za_12, za_14, za_15, za_22, za_23, za_25, za_26, za_27, za_28, za_29, za_30, za_31, za_32, za_33, za_34, za_35, za_41, za_42, za_43, za_44, za_45, za_46, za_47, za_48, za_49, za_61, za_62, za_63, za_64, za_65, za_71, za_72, za_73, za_74, za_75, za_76, za_77, za_78, za_79, za_80, za_81, za_82, za_83, za_84, za_85, za_86, za_87, za_88, za_89, za_90, za_91, za_92, za_93, za_94, za_95, za_96, za_97, za_98, za_99, za_100, za_101, za_102, za_103, za_104, za_105, za_106, za_107, za_108]
  refine loopF (fun f (m : Mem) i => L_X8_trims_272 N f m (nI 1) (nI i)) Q.length (fun i m' => m' 70 27 = eB (endQ E Q) i ∧ Fx 85 85 [27] m m') (fun o => ∃ m', o = some (nI 1, m') ∧ m' 70 27 = eB (endQ E Q) Q.length ∧ Fx 85 85 [27] m m') ?_ ?_ N 0 _ (Nat.zero_le _) ⟨by rw [mup_s]; rfl, Fx.rf.sl (by simp)⟩ (by omega)
  · rintro f i m1 hi ⟨h1, h2⟩
    obtain ⟨q, hq⟩ : ∃ q, Q[i]? = some q := ⟨_, List.getElem?_eq_getElem hi⟩
    have hqn := hQ.2.1 q (List.mem_of_getElem? hq)
    have e20 : m1 70 20 = nI Q.length := (h2.2 20 (by simp)).trans hQ.2.2.2.2
    have e86 := (h2.at (c := 86) (by omega) (by omega) i).trans (hQ.2.2.1 i q (by omega) hq)
    have e82 := (h2.at (c := 82) (by omega) (by omega) q).trans (hMW.2.2 q hqn)
    have hE : endQ E Q i = E q := by unfold endQ; rw [List.getD_eq_getElem?_getD, hq]; rfl
    have hor : ∀ x : Int32, x ||| nI 0 = x := fun x => Int32.or_zero
    cases hb : E q with
    | true =>
      rw [hb, bI_t] at e82
      refine Or.inl ⟨mup m1 70 27 (eB (endQ E Q) i ||| q_shl (nI 1) (nI i)), ⟨?_, h2.sl (by simp)⟩, ?_⟩
      · rw [mup_s]
        show _ = if endQ E Q i = true then _ else _
        rw [hE, hb, if_pos rfl]
      · show S_X8_trims_272 N (L_X8_trims_272 N f) m1 (nI 1) (nI i) = _
        unfold S_X8_trims_272 B_X8_trims_310
        simp (disch := omega) only [zi_t, zi_f, bnd_t, zg_in, zx, nI_ltI, nI_leI, nI_eq, nI_add, pk_mul, pk_sub, mup_s, mup_c, mup_j, mrw_c, if_pos, if_neg, zm_1, zm_2, zm_3, zm_4, zm_5, zm_6, zm_7, zm_8, zm_9, zf_0, zf_1, zf_2, zf_3, zf_4, zf_5, zf_6, zf_7, zf_8, zf_9, zf_10, zf_14, zf_15, zf_16, zf_18, zf_19, zf_20, zf_24, zf_30, zf_31, zf_32, zf_33, zf_99, zf_100, zf_160, zf_200, zf_287, zf_288, zf_300, zf_1000, zf_1023, zf_1024, zf_1600, zf_3840, zf_25600, zf_36000, zf_1000000, zf_1000000000, zf_2000000000, zf_11560, za_1, za_2, za_4, za_5, za_6, za_7, za_8, za_9, za_10, za_11, za_12, za_14, za_15, za_22, za_23, za_25, za_26, za_27, za_28, za_29, za_30, za_31, za_32, za_33, za_34, za_35, za_41, za_42, za_43, za_44, za_45, za_46, za_47, za_48, za_49, za_61, za_62, za_63, za_64, za_65, za_71, za_72, za_73, za_74, za_75, za_76, za_77, za_78, za_79, za_80, za_81, za_82, za_83, za_84, za_85, za_86, za_87, za_88, za_89, za_90, za_91, za_92, za_93, za_94, za_95, za_96, za_97, za_98, za_99, za_100, za_101, za_102, za_103, za_104, za_105, za_106, za_107, za_108, e20, e86, e82, h1]
    | false =>
      rw [hb, bI_f] at e82
      refine Or.inl ⟨mup m1 70 27 (eB (endQ E Q) i), ⟨?_, h2.sl (by simp)⟩, ?_⟩
      · rw [mup_s]
        show _ = if endQ E Q i = true then _ else _
        rw [hE, hb, if_neg (by simp)]
      · show S_X8_trims_272 N (L_X8_trims_272 N f) m1 (nI 1) (nI i) = _
        unfold S_X8_trims_272 B_X8_trims_310
        simp (disch := omega) only [zi_t, zi_f, bnd_t, zg_in, zx, nI_ltI, nI_leI, nI_eq, nI_add, pk_mul, pk_sub, mup_s, mup_c, mup_j, mrw_c, if_pos, if_neg, zm_1, zm_2, zm_3, zm_4, zm_5, zm_6, zm_7, zm_8, zm_9, zf_0, zf_1, zf_2, zf_3, zf_4, zf_5, zf_6, zf_7, zf_8, zf_9, zf_10, zf_14, zf_15, zf_16, zf_18, zf_19, zf_20, zf_24, zf_30, zf_31, zf_32, zf_33, zf_99, zf_100, zf_160, zf_200, zf_287, zf_288, zf_300, zf_1000, zf_1023, zf_1024, zf_1600, zf_3840, zf_25600, zf_36000, zf_1000000, zf_1000000000, zf_2000000000, zf_11560, za_1, za_2, za_4, za_5, za_6, za_7, za_8, za_9, za_10, za_11, za_12, za_14, za_15, za_22, za_23, za_25, za_26, za_27, za_28, za_29, za_30, za_31, za_32, za_33, za_34, za_35, za_41, za_42, za_43, za_44, za_45, za_46, za_47, za_48, za_49, za_61, za_62, za_63, za_64, za_65, za_71, za_72, za_73, za_74, za_75, za_76, za_77, za_78, za_79, za_80, za_81, za_82, za_83, za_84, za_85, za_86, za_87, za_88, za_89, za_90, za_91, za_92, za_93, za_94, za_95, za_96, za_97, za_98, za_99, za_100, za_101, za_102, za_103, za_104, za_105, za_106, za_107, za_108, e20, e86, e82, h1, hor]
  · rintro f m1 ⟨h1, h2⟩
    have e20 : m1 70 20 = nI Q.length := (h2.2 20 (by simp)).trans hQ.2.2.2.2
    refine ⟨m1, ?_, h1, h2⟩
    show S_X8_trims_272 N (L_X8_trims_272 N f) m1 (nI 1) (nI Q.length) = _
    unfold S_X8_trims_272 B_X8_trims_320
    simp (disch := omega) only [zi_t, zi_f, bnd_t, zg_in, zx, nI_ltI, nI_leI, nI_eq, nI_add, pk_mul, pk_sub, mup_s, mup_c, mup_j, mrw_c, if_pos, if_neg, zm_1, zm_2, zm_3, zm_4, zm_5, zm_6, zm_7, zm_8, zm_9, zf_0, zf_1, zf_2, zf_3, zf_4, zf_5, zf_6, zf_7, zf_8, zf_9, zf_10, zf_14, zf_15, zf_16, zf_18, zf_19, zf_20, zf_24, zf_30, zf_31, zf_32, zf_33, zf_99, zf_100, zf_160, zf_200, zf_287, zf_288, zf_300, zf_1000, zf_1023, zf_1024, zf_1600, zf_3840, zf_25600, zf_36000, zf_1000000, zf_1000000000, zf_2000000000, zf_11560, za_1, za_2, za_4, za_5, za_6, za_7, za_8, za_9, za_10, za_11, za_12, za_14, za_15, za_22, za_23, za_25, za_26, za_27, za_28, za_29, za_30, za_31, za_32, za_33, za_34, za_35, za_41, za_42, za_43, za_44, za_45, za_46, za_47, za_48, za_49, za_61, za_62, za_63, za_64, za_65, za_71, za_72, za_73, za_74, za_75, za_76, za_77, za_78, za_79, za_80, za_81, za_82, za_83, za_84, za_85, za_86, za_87, za_88, za_89, za_90, za_91, za_92, za_93, za_94, za_95, za_96, za_97, za_98, za_99, za_100, za_101, za_102, za_103, za_104, za_105, za_106, za_107, za_108, e20, gd_t (show isb (nI 1) = true from rfl)]
theorem trim_zero {N : Nat} {m : Mem} (hN : 40000 < N) : ∃ m', B_X8_trims_265 N m (nI 0) = some (nI 0, m') ∧ Fx 85 85 [27] m m' := by
  unfold B_X8_trims_265
  simp (disch := omega) only [zi_t, zi_f, bnd_t, zg_in, zx, nI_ltI, nI_leI, nI_eq, nI_add, pk_mul, pk_sub, mup_s, mup_c, mup_j, mrw_c, if_pos, if_neg, zm_1, zm_2, zm_3, zm_4, zm_5, zm_6, zm_7, zm_8, zm_9, zf_0, zf_1, zf_2, zf_3, zf_4, zf_5, zf_6, zf_7, zf_8, zf_9, zf_10, zf_14, zf_15, zf_16, zf_18, zf_19, zf_20, zf_24, zf_30, zf_31, zf_32, zf_33, zf_99, zf_100, zf_160, zf_200, zf_287, zf_288, zf_300, zf_1000, zf_1023, zf_1024, zf_1600, zf_3840, zf_25600, zf_36000, zf_1000000, zf_1000000000, zf_2000000000, zf_11560, za_1, za_2, za_4, za_5, za_6, za_7, za_8, za_9, za_10, za_11, za_12, za_14, za_15, za_22, za_23, za_25, za_26, za_27, za_28, za_29, za_30, za_31, za_32, za_33, za_34, za_35, za_41, za_42, za_43, za_44, za_45, za_46, za_47, za_48, za_49, za_61, za_62, za_63, za_64, za_65, za_71, za_72, za_73, za_74, za_75, za_76, za_77, za_78, za_79, za_80, za_81, za_82, za_83, za_84, za_85, za_86, za_87, za_88, za_89, za_90, za_91, za_92, za_93, za_94, za_95, za_96, za_97, za_98, za_99, za_100, za_101, za_102, za_103, za_104, za_105, za_106, za_107, za_108]
  obtain ⟨g, hg⟩ : ∃ g, N = g + 1 := ⟨N - 1, by omega⟩
  refine ⟨mup m 70 27 (nI 0), ?_, Fx.rf.sl (by simp)⟩
  have : ∀ M x, L_X8_trims_272 N (g + 1) M (nI 0) x = some (nI 0, M) := by
    intro M x
    show S_X8_trims_272 N (L_X8_trims_272 N g) M (nI 0) x = _
    unfold S_X8_trims_272 B_X8_trims_320
    by_cases h : M 70 20 ≤ x
    · rw [if_pos h]; exact gd_t rfl
    · rw [if_neg h, if_pos (show nI 0 = 0 from rfl)]; exact gd_t rfl
  rw [← hg] at this
  exact this _ _
theorem trim_out {N st : Nat} {E : Nat → Bool} {D : ArL} {rd us : Nat → Bool} {W : List Nat} {m0 : Mem} (hN : 40000 < N) (hMW : MW m0 E D) (hMR : MR m0 rd us) (hD : D.length ≤ 36000) (hok : DOK 1024 D) (hst : st < 1024) (hWS : WS D E 1024 st W) (hW : ∀ t, t ∈ W ↔ rd t = true ∧ us t = true) (hsW : st ∈ W) (hQ0 : NM m0 [st]) (h26 : m0 70 26 = nI 0) :
    ∃ m', Fx 85 92 [20, 26, 27] m0 m' ∧ ((tooBig D W ∧ L_X8_trims_46 N N m0 (nI st) (nI 1) (nI 0) = some (nI 0, m')) ∨ (¬ tooBig D W ∧ L_X8_trims_46 N N m0 (nI st) (nI 1) (nI 0) = some (nI 1, m') ∧ m' 70 20 = nI (outQ D W st).length ∧ m' 70 27 = outE E D W st ∧ ∃ Z : ArL, R5 m' (Z.map (reA (outQ D W st))) ∧ Z.Nodup ∧ ∀ q, q ∈ Z ↔ q ∈ usA D W)) := by
  have hU : Srt (usA D W) := insL_srt _
  have hust := (hW st).mp hsW
  refine loopW (σ := Bool × Mem × List Nat × ArL × Nat) (fun f s => L_X8_trims_46 N f s.2.1 (nI st) (bI s.1) (nI s.2.2.2.2))
    (fun s => (s.1 = false ∧ tooBig D W ∧ Fx 85 92 [20, 26] m0 s.2.1) ∨ (s.1 = true ∧ NM s.2.1 s.2.2.1 ∧ R5 s.2.1 (s.2.2.2.1.map (reA s.2.2.1)) ∧ Fx 85 92 [20, 26] m0 s.2.1 ∧ (∀ t, t ∈ s.2.2.1 → t ∈ W) ∧ s.2.2.1.length ≤ 32 ∧ s.2.2.2.1.length ≤ 160 ∧ s.2.2.2.2 ≤ s.2.2.1.length ∧ s.2.2.2.1.Nodup ∧ (∀ q, q ∈ s.2.2.2.1 → q ∈ usA D W ∧ fr q.1 ∈ s.2.2.1 ∧ too q.1 ∈ s.2.2.1) ∧ (∀ q, q ∈ usA D W → (q ∈ s.2.2.2.1 ↔ ∃ i, i < s.2.2.2.2 ∧ s.2.2.1[i]? = some (fr q.1))) ∧ st ∈ s.2.2.1 ∧ bfs (usA D W) (32 - s.2.2.2.2) s.2.2.2.2 s.2.2.1 = ordQ (usA D W) st))
    (fun s => 34 - s.2.2.2.2)
    (fun o => ∃ m', Fx 85 92 [20, 26, 27] m0 m' ∧ ((tooBig D W ∧ o = some (nI 0, m')) ∨ (¬ tooBig D W ∧ o = some (nI 1, m') ∧ m' 70 20 = nI (outQ D W st).length ∧ m' 70 27 = outE E D W st ∧ ∃ Z : ArL, R5 m' (Z.map (reA (outQ D W st))) ∧ Z.Nodup ∧ ∀ q, q ∈ Z ↔ q ∈ usA D W)))
    ?_ N (true, m0, [st], [], 0) (Or.inr ⟨rfl, hQ0, ⟨h26, fun j q hq => (by simp at hq)⟩, Fx.rf, fun t ht => (by rw [List.mem_singleton] at ht; rw [ht]; exact hsW), by show 1 ≤ 32; omega, Nat.zero_le _, Nat.zero_le _, List.nodup_nil, fun q hq => (by cases hq), fun q _ => ⟨fun h => (by cases h), fun ⟨i, hi, _⟩ => absurd hi (Nat.not_lt_zero _)⟩, List.mem_singleton.mpr rfl, rfl⟩) (by show 34 - 0 < N; omega)
  rintro f ⟨g, m, Q, Z, k⟩ (⟨h0, h1, h2⟩ | ⟨h0, h1, h2, h3, h4, h5, h6, h7, h8, h9, h10, h11, h12⟩)
  · dsimp only at h0 h1 h2
    subst h0
    obtain ⟨m', p1, p2⟩ := trim_zero (N := N) (m := m) hN
    refine Or.inr ⟨m', (h2.wd (by omega) (by omega) (by simp)).tr (p2.wd (by omega) (by omega) (by simp)), Or.inl ⟨h1, ?_⟩⟩
    show S_X8_trims_46 N (L_X8_trims_46 N f) m (nI st) (nI 0) (nI k) = _
    unfold S_X8_trims_46
    by_cases h : m 70 20 ≤ nI k
    · rw [if_pos h]; exact p1
    · rw [if_neg h, if_pos (show nI 0 = 0 from rfl)]; exact p1
  dsimp only at h0 h1 h2 h3 h4 h5 h6 h7 h8 h9 h10 h11 h12
  subst h0
  have hMWm : MW m E D := hMW.cg (h3.2 14 (by simp)) (h3.1 80 (by omega) (by omega)) (h3.1 81 (by omega) (by omega)) (h3.1 82 (by omega) (by omega))
  have hMRm : MR m rd us := fun t ht => by rw [h3.1 83 (by omega) (by omega), h3.1 84 (by omega) (by omega)]; exact hMR t ht
  have e20 := h1.2.2.2.2
  show (∃ s', _ ∧ _ ∧ S_X8_trims_46 N (L_X8_trims_46 N f) m (nI st) (nI 1) (nI k) = _) ∨ (∃ m', _ ∧ ((_ ∧ S_X8_trims_46 N (L_X8_trims_46 N f) m (nI st) (nI 1) (nI k) = _) ∨ (_ ∧ S_X8_trims_46 N (L_X8_trims_46 N f) m (nI st) (nI 1) (nI k) = _ ∧ _)))
  by_cases hk : k < Q.length
  · obtain ⟨s, hs⟩ : ∃ s, Q[k]? = some s := ⟨_, List.getElem?_eq_getElem hk⟩
    have hsQ := List.mem_of_getElem? hs
    have hsW2 := h4 s hsQ
    have hs1024 := h1.2.1 s hsQ
    have e86 := h1.2.2.1 k s (by omega) hs
    have e84 : m 84 st = nI 1 := by rw [(hMRm st hst).2, hust.2]; rfl
    obtain ⟨r, hr, hr2⟩ := mw_next (lim := 0) hN hMWm hD hok hMRm hs1024 (Or.inl ⟨rfl, rfl⟩)
    have hnh := next_head (l1 := []) (l2 := seg (usA D W) s) hW hsW2 rfl (fun q hq => (by cases hq)) (fun q _ => Nat.zero_le _) hr2
    have hdis : (Z ++ seg (usA D W) s).Nodup := by
      rw [List.nodup_append]
      refine ⟨h8, srt_nodup (seg_srt hU s), ?_⟩
      rintro a ha b hb rfl
      have hb2 := (seg_mem hU).mp hb
      obtain ⟨i, hi, hi2⟩ := (h10 a hb2.1).mp ha
      rw [hb2.2] at hi2
      have := (List.getElem?_inj (by omega) h1.1).mp (hi2.trans hs.symm)
      omega
    have hsl : (seg (usA D W) s).length + 1 < N := by
      have a1 : (usA D W).length ≤ 0 + (D.filter (inW W)).length := (insL_len (D.filter (inW W)) []).2
      have a2 := List.length_filter_le (inW W) D
      have a3 : (seg (usA D W) s).length ≤ (usA D W).length := by
        unfold seg
        rw [List.length_drop, List.length_take]
        omega
      omega
    obtain ⟨m', p1, p2⟩ := trim_in (N := N) (st := st) (k := k) (s := s) (rec := L_X8_trims_46 N f) hN hMW hMR hD hok hWS.1 hW (fun t ht => ((hWS.2 t).mp ht).1) hsW2 (by omega) (seg (usA D W) s) [] N m Q Z r rfl h1 h2 h3 h4 hs (fun q hq => (h9 q hq).2) hdis (fun q hq => (h9 q hq).1) h6 h5 hsl hnh
    have hS : S_X8_trims_46 N (L_X8_trims_46 N f) m (nI st) (nI 1) (nI k) = L_X8_trims_80 N (L_X8_trims_46 N f) N m (nI st) (nI 1) (nI k) r := by
      unfold S_X8_trims_46
      simp (disch := omega) only [zi_t, zi_f, bnd_t, zg_in, zx, nI_ltI, nI_leI, nI_eq, nI_add, pk_mul, pk_sub, mup_s, mup_c, mup_j, mrw_c, if_pos, if_neg, zm_1, zm_2, zm_3, zm_4, zm_5, zm_6, zm_7, zm_8, zm_9, zf_0, zf_1, zf_2, zf_3, zf_4, zf_5, zf_6, zf_7, zf_8, zf_9, zf_10, zf_14, zf_15, zf_16, zf_18, zf_19, zf_20, zf_24, zf_30, zf_31, zf_32, zf_33, zf_99, zf_100, zf_160, zf_200, zf_287, zf_288, zf_300, zf_1000, zf_1023, zf_1024, zf_1600, zf_3840, zf_25600, zf_36000, zf_1000000, zf_1000000000, zf_2000000000, zf_11560, za_1, za_2, za_4, za_5, za_6, za_7, za_8, za_9, za_10, za_11, za_12, za_14, za_15, za_22, za_23, za_25, za_26, za_27, za_28, za_29, za_30, za_31, za_32, za_33, za_34, za_35, za_41, za_42, za_43, za_44, za_45, za_46, za_47, za_48, za_49, za_61, za_62, za_63, za_64, za_65, za_71, za_72, za_73, za_74, za_75, za_76, za_77, za_78, za_79, za_80, za_81, za_82, za_83, za_84, za_85, za_86, za_87, za_88, za_89, za_90, za_91, za_92, za_93, za_94, za_95, za_96, za_97, za_98, za_99, za_100, za_101, za_102, za_103, za_104, za_105, za_106, za_107, za_108, e20, e84, e86]
      rw [cal_t hr]
    rw [hS]
    rcases p2 with ⟨q1, q2, q3, q4, q5⟩ | ⟨q1, q2⟩
    · obtain ⟨R, hR⟩ := addNs_pre ((seg (usA D W) s).map (fun q => too q.1)) Q
      refine Or.inl ⟨(true, m', ((seg (usA D W) s).map (fun q => too q.1)).foldl addN Q, Z ++ seg (usA D W) s, k + 1), Or.inr ⟨rfl, q2, q3, p1, ?_, q4, q5, ?_, hdis, ?_, ?_, ?_, ?_⟩, ?_, q1⟩
      · intro t ht
        rcases (addNs_mem _ _ _).mp ht with e | e
        · exact h4 t e
        · obtain ⟨q, hq, rfl⟩ := List.mem_map.mp e
          exact (usA_of ((seg_mem hU).mp hq).1).2.2
      · show k + 1 ≤ (List.foldl addN Q _).length
        rw [hR, List.length_append]; omega
      · intro q hq
        show q ∈ usA D W ∧ fr q.1 ∈ List.foldl addN Q _ ∧ too q.1 ∈ List.foldl addN Q _
        rcases List.mem_append.mp hq with e | e
        · have := h9 q e
          exact ⟨this.1, (addNs_mem _ _ _).mpr (Or.inl this.2.1), (addNs_mem _ _ _).mpr (Or.inl this.2.2)⟩
        · have := (seg_mem hU).mp e
          exact ⟨this.1, (addNs_mem _ _ _).mpr (Or.inl (by rw [this.2]; exact hsQ)), (addNs_mem _ _ _).mpr (Or.inr (List.mem_map.mpr ⟨q, e, rfl⟩))⟩
      · intro q hq
        show q ∈ Z ++ seg (usA D W) s ↔ ∃ i, i < k + 1 ∧ (List.foldl addN Q _)[i]? = some (fr q.1)
        rw [List.mem_append, h10 q hq, seg_mem hU, hR]
        constructor
        · rintro (⟨i, hi, e⟩ | ⟨_, e⟩)
          · exact ⟨i, by omega, by rw [List.getElem?_append_left (by omega)]; exact e⟩
          · exact ⟨k, by omega, by rw [List.getElem?_append_left hk, e]; exact hs⟩
        · rintro ⟨i, hi, e⟩
          rw [List.getElem?_append_left (by omega)] at e
          by_cases hik : i = k
          · subst hik
            rw [hs] at e
            exact Or.inr ⟨hq, (Option.some.inj e).symm⟩
          · exact Or.inl ⟨i, by omega, e⟩
      · exact (addNs_mem _ _ _).mpr (Or.inl h11)
      · rw [← h12, show 32 - k = (32 - (k + 1)) + 1 by omega]
        show _ = (match Q[k]? with | none => Q | some s => bfs (usA D W) (32 - (k + 1)) (k + 1) ((outs (usA D W) s).foldl addN Q))
        rw [hs]
        rfl
      · show 34 - (k + 1) < 34 - k
        omega
    · refine Or.inl ⟨(false, m', Q, Z, k + 1), Or.inl ⟨rfl, q2, p1⟩, ?_, q1⟩
      show 34 - (k + 1) < 34 - k
      omega
  · have hkQ : k = Q.length := by omega
    obtain ⟨m', p1, p2, p3⟩ := trim_ends hN hMWm h1 h5
    have hbQ : ∀ d, bfs (usA D W) d k Q = Q := by
      intro d
      cases d with
      | zero => rfl
      | succ d =>
        show (match Q[k]? with | none => Q | some s => bfs (usA D W) d (k + 1) ((outs (usA D W) s).foldl addN Q)) = Q
        rw [List.getElem?_eq_none (by omega)]
    have hQo : outQ D W st = Q := by
      show ordQ (usA D W) st = Q
      rw [← h12, hbQ]
    have hcl : ∀ s t, s ∈ Q → t ∈ outs (usA D W) s → t ∈ Q := by
      intro s t hs ht
      obtain ⟨q, hq, e1, e2⟩ := (outs_mem hU).mp ht
      obtain ⟨i, hi⟩ := List.getElem?_of_mem hs
      have hil := (List.getElem?_eq_some_iff.mp hi).1
      have := (h9 q ((h10 q hq).mpr ⟨i, by omega, by rw [e1]; exact hi⟩)).2.2
      rwa [e2] at this
    have hWQ := cl_all hWS hok h11 hcl
    have hWl := nodup_le W Q hWS.1 hWQ
    have hUZ : ∀ q, q ∈ usA D W → q ∈ Z := by
      intro q hq
      obtain ⟨i, hi⟩ := List.getElem?_of_mem (hWQ _ (usA_of hq).2.1)
      have hil := (List.getElem?_eq_some_iff.mp hi).1
      exact (h10 q hq).mpr ⟨i, by omega, hi⟩
    have hUl := nodup_leA (usA D W) Z (srt_nodup hU) hUZ
    refine Or.inr ⟨m', (h3.wd (by omega) (by omega) (by simp)).tr (p3.wd (by omega) (by omega) (by simp)), Or.inr ⟨?_, ?_, ?_, ?_, Z, ?_, h8, fun q => ⟨fun h => (h9 q h).1, hUZ q⟩⟩⟩
    · rintro (hb | hb)
      · omega
      · omega
    · show S_X8_trims_46 N (L_X8_trims_46 N f) m (nI st) (nI 1) (nI k) = _
      unfold S_X8_trims_46
      simp (disch := omega) only [zi_t, zi_f, bnd_t, zg_in, zx, nI_ltI, nI_leI, nI_eq, nI_add, pk_mul, pk_sub, mup_s, mup_c, mup_j, mrw_c, if_pos, if_neg, zm_1, zm_2, zm_3, zm_4, zm_5, zm_6, zm_7, zm_8, zm_9, zf_0, zf_1, zf_2, zf_3, zf_4, zf_5, zf_6, zf_7, zf_8, zf_9, zf_10, zf_14, zf_15, zf_16, zf_18, zf_19, zf_20, zf_24, zf_30, zf_31, zf_32, zf_33, zf_99, zf_100, zf_160, zf_200, zf_287, zf_288, zf_300, zf_1000, zf_1023, zf_1024, zf_1600, zf_3840, zf_25600, zf_36000, zf_1000000, zf_1000000000, zf_2000000000, zf_11560, za_1, za_2, za_4, za_5, za_6, za_7, za_8, za_9, za_10, za_11, za_12, za_14, za_15, za_22, za_23, za_25, za_26, za_27, za_28, za_29, za_30, za_31, za_32, za_33, za_34, za_35, za_41, za_42, za_43, za_44, za_45, za_46, za_47, za_48, za_49, za_61, za_62, za_63, za_64, za_65, za_71, za_72, za_73, za_74, za_75, za_76, za_77, za_78, za_79, za_80, za_81, za_82, za_83, za_84, za_85, za_86, za_87, za_88, za_89, za_90, za_91, za_92, za_93, za_94, za_95, za_96, za_97, za_98, za_99, za_100, za_101, za_102, za_103, za_104, za_105, za_106, za_107, za_108, e20]
      exact p1
    · rw [hQo, p3.2 20 (by simp), e20]
    · show m' 70 27 = eB (endQ E (outQ D W st)) (outQ D W st).length
      rw [hQo]; exact p2
    · rw [hQo]
      exact h2.cg (p3.2 26 (by simp)) (p3.1 87 (by omega) (by omega)) (p3.1 88 (by omega) (by omega)) (p3.1 89 (by omega) (by omega)) (p3.1 90 (by omega) (by omega)) (p3.1 91 (by omega) (by omega))
