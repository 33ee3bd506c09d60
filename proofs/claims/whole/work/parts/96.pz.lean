theorem mw_trims {N st : Nat} {E : Nat → Bool} {D : ArL} {m : Mem} (hN : 40000 < N) (h : MW m E D) (hD : D.length ≤ 36000) (hok : DOK 1024 D) (hst : st < 1024) :
    ∃ m' W, WS D E 1024 st W ∧ Fx 83 92 [20, 26, 27] m m' ∧ ((tooBig D W ∧ F_X8_trims N m (nI st) = some (nI 0, m')) ∨ (¬ tooBig D W ∧ F_X8_trims N m (nI st) = some (nI 1, m') ∧ m' 70 20 = nI (outQ D W st).length ∧ m' 70 27 = outE E D W st ∧ ∃ Z : ArL, R5 m' (Z.map (reA (outQ D W st))) ∧ Z.Nodup ∧ ∀ q, q ∈ Z ↔ q ∈ usA D W)) := by
  obtain ⟨m1, rd, us, g1, g2, g3, g4, g5⟩ := mw_reaches hN h hD hok hst
  have hrdn : ∀ t, rd t = true → t < 1024 := by
    intro t ht
    refine ((g4 t).mp ht).cl (S := fun x => x < 1024) hst ?_
    rintro x y _ ⟨q, hq, _, e⟩
    rw [← e]; exact (hok q hq).2.2.1
  obtain ⟨W, hWdef⟩ : ∃ W, W = (List.range 1024).filter (fun t => rd t && us t) := ⟨_, rfl⟩
  have hW : ∀ t, t ∈ W ↔ rd t = true ∧ us t = true := by
    intro t
    rw [hWdef, List.mem_filter, List.mem_range, Bool.and_eq_true]
    exact ⟨fun h => h.2, fun h => ⟨hrdn t h.1, h⟩⟩
  have hWS : WS D E 1024 st W := by
    refine ⟨by rw [hWdef]; exact List.nodup_range.filter _, ?_⟩
    intro s
    rw [hW, g4, g5]
    exact ⟨fun h => ⟨hrdn s ((g4 s).mpr h.1), h⟩, fun h => h.2⟩
  suffices hs : ∃ m', Fx 83 92 [20, 26, 27] m m' ∧ ((tooBig D W ∧ F_X8_trims N m (nI st) = some (nI 0, m')) ∨ (¬ tooBig D W ∧ F_X8_trims N m (nI st) = some (nI 1, m') ∧ m' 70 20 = nI (outQ D W st).length ∧ m' 70 27 = outE E D W st ∧ ∃ Z : ArL, R5 m' (Z.map (reA (outQ D W st))) ∧ Z.Nodup ∧ ∀ q, q ∈ Z ↔ q ∈ usA D W)) by
    obtain ⟨m', h1, h2⟩ := hs
    exact ⟨m', W, hWS, h1, h2⟩
  unfold F_X8_trims
  rw [calv_t g1]
  refine loopF (fun f (m : Mem) i => L_X8_trims_7 N f m (nI st) (nI i)) 1024 (fun i m' => (∀ s, s < i → m' 85 s = nM) ∧ Fx 85 86 [] m1 m') (fun o => ∃ m', Fx 83 92 [20, 26, 27] m m' ∧ ((tooBig D W ∧ o = some (nI 0, m')) ∨ (¬ tooBig D W ∧ o = some (nI 1, m') ∧ m' 70 20 = nI (outQ D W st).length ∧ m' 70 27 = outE E D W st ∧ ∃ Z : ArL, R5 m' (Z.map (reA (outQ D W st))) ∧ Z.Nodup ∧ ∀ q, q ∈ Z ↔ q ∈ usA D W))) ?_ ?_ N 0 m1 (by omega) ⟨fun s hs => absurd hs (Nat.not_lt_zero _), Fx.rf⟩ (by omega)
  · rintro f i m2 hi ⟨k1, k2⟩
    refine Or.inl ⟨mup m2 85 i nM, ⟨?_, k2.up (by omega) (by omega) (by omega)⟩, ?_⟩
    · intro s hs
      rw [mup_if]
      split
      · rfl
      · exact k1 s (by omega)
    · show S_X8_trims_7 N (L_X8_trims_7 N f) m2 (nI st) (nI i) = _
      unfold S_X8_trims_7
      simp (disch := omega) only [zi_t, zi_f, bnd_t, zg_in, zx, nI_ltI, nI_leI, nI_eq, nI_add, pk_mul, pk_sub, mup_s, mup_c, mup_j, mrw_c, if_pos, if_neg, zm_1, zm_2, zm_3, zm_4, zm_5, zm_6, zm_7, zm_8, zm_9, zf_0, zf_1, zf_2, zf_3, zf_4, zf_5, zf_6, zf_7, zf_8, zf_9, zf_10, zf_14, zf_15, zf_16, zf_18, zf_19, zf_20, zf_24, zf_30, zf_31, zf_32, zf_33, zf_99, zf_100, zf_160, zf_200, zf_287, zf_288, zf_300, zf_1000, zf_1023, zf_1024, zf_1600, zf_3840, zf_25600, zf_36000, zf_1000000, zf_1000000000, zf_2000000000, zf_11560, za_1, za_2, za_4, za_5, za_6, za_7, za_8, za_9, za_10, za_11, za_12, za_14, za_15, za_22, za_23, za_25, za_26, za_27, za_28, za_29, za_30, za_31, za_32, za_33, za_34, za_35, za_41, za_42, za_43, za_44, za_45, za_46, za_47, za_48, za_49, za_61, za_62, za_63, za_64, za_65, za_71, za_72, za_73, za_74, za_75, za_76, za_77, za_78, za_79, za_80, za_81, za_82, za_83, za_84, za_85, za_86, za_87, za_88, za_89, za_90, za_91, za_92, za_93, za_94, za_95, za_96, za_97, za_98, za_99, za_100, za_101, za_102, za_103, za_104, za_105, za_106, za_107, za_108]
  · rintro f m2 ⟨k1, k2⟩
    obtain ⟨m4, hm4⟩ : ∃ m4, m4 = mup (mup m2 70 20 (nI 0)) 70 26 (nI 0) := ⟨_, rfl⟩
    have f4 : Fx 85 86 [20, 26] m1 m4 := by rw [hm4]; exact ((k2.wd (by omega) (by omega) (by simp)).sl (by simp)).sl (by simp)
    have n4 : NM m4 [] := ⟨List.nodup_nil, fun s hs => (by cases hs), fun i q _ hq => (by simp at hq), fun s hs => by rw [if_neg (by simp), hm4, mup_c (by omega), mup_c (by omega)]; exact k1 s hs, by rw [hm4, mup_j (by omega), mup_s]; rfl⟩
    obtain ⟨m6, p1, p2, p3⟩ := mw_finds (N := N) n4 hst
    have f6 : Fx 85 87 [20, 26] m1 m6 := (f4.wd (by omega) (by omega) (by simp)).tr (p3.wd (by omega) (by omega) (by simp))
    have q6 : NM m6 [st] := p2
    have f6m : Fx 83 92 [20, 26, 27] m m6 := (g3.wd (by omega) (by omega) (by simp)).tr (f6.wd (by omega) (by omega) (by simp))
    have w6 : MW m6 E D := h.cg (f6m.2 14 (by simp)) (f6m.1 80 (by omega) (by omega)) (f6m.1 81 (by omega) (by omega)) (f6m.1 82 (by omega) (by omega))
    have r6 : MR m6 rd us := fun t ht => by rw [f6.1 83 (by omega) (by omega), f6.1 84 (by omega) (by omega)]; exact g2 t ht
    have e26 : m6 70 26 = nI 0 := by rw [p3.2 26 (by simp), hm4, mup_s]
    have hstep : S_X8_trims_7 N (L_X8_trims_7 N f) m2 (nI st) (nI 1024) = L_X8_trims_46 N N m6 (nI st) (nI 1) (nI 0) := by
      unfold S_X8_trims_7
      simp (disch := omega) only [zi_t, zi_f, bnd_t, zg_in, zx, nI_ltI, nI_leI, nI_eq, nI_add, pk_mul, pk_sub, mup_s, mup_c, mup_j, mrw_c, if_pos, if_neg, zm_1, zm_2, zm_3, zm_4, zm_5, zm_6, zm_7, zm_8, zm_9, zf_0, zf_1, zf_2, zf_3, zf_4, zf_5, zf_6, zf_7, zf_8, zf_9, zf_10, zf_14, zf_15, zf_16, zf_18, zf_19, zf_20, zf_24, zf_30, zf_31, zf_32, zf_33, zf_99, zf_100, zf_160, zf_200, zf_287, zf_288, zf_300, zf_1000, zf_1023, zf_1024, zf_1600, zf_3840, zf_25600, zf_36000, zf_1000000, zf_1000000000, zf_2000000000, zf_11560, za_1, za_2, za_4, za_5, za_6, za_7, za_8, za_9, za_10, za_11, za_12, za_14, za_15, za_22, za_23, za_25, za_26, za_27, za_28, za_29, za_30, za_31, za_32, za_33, za_34, za_35, za_41, za_42, za_43, za_44, za_45, za_46, za_47, za_48, za_49, za_61, za_62, za_63, za_64, za_65, za_71, za_72, za_73, za_74, za_75, za_76, za_77, za_78, za_79, za_80, za_81, za_82, za_83, za_84, za_85, za_86, za_87, za_88, za_89, za_90, za_91, za_92, za_93, za_94, za_95, za_96, za_97, za_98, za_99, za_100, za_101, za_102, za_103, za_104, za_105, za_106, za_107, za_108]
      rw [← hm4, calv_t p1]
    show ∃ m', _ ∧ ((_ ∧ S_X8_trims_7 N (L_X8_trims_7 N f) m2 (nI st) (nI 1024) = _) ∨ (_ ∧ S_X8_trims_7 N (L_X8_trims_7 N f) m2 (nI st) (nI 1024) = _ ∧ _))
    rw [hstep]
    by_cases hsW : st ∈ W
    · obtain ⟨m', a1, a2⟩ := trim_out hN w6 r6 hD hok hst hWS hW hsW q6 e26
      exact ⟨m', f6m.tr (a1.wd (by omega) (by omega) (by simp)), a2⟩
    · obtain ⟨w1, w2, w3, w4⟩ := ord_none hWS hst hsW
      have hus : us st = false := by
        cases hu : us st with
        | false => rfl
        | true => exact absurd ((hW st).mpr ⟨(g4 st).mpr Rc.rf, hu⟩) hsW
      have e84 : m6 84 st = nI 0 := by rw [(r6 st hst).2, hus]; rfl
      have e20 : m6 70 20 = nI 1 := q6.2.2.2.2
      obtain ⟨m', a1, a2, a3⟩ := trim_ends hN w6 q6 (by show 1 ≤ 32; omega)
      have hQ : outQ D W st = [st] := w3
      refine ⟨m', f6m.tr (a3.wd (by omega) (by omega) (by simp)), Or.inr ⟨?_, ?_, ?_, ?_, [], ?_, List.nodup_nil, ?_⟩⟩
      · rintro (hb | hb)
        · rw [w1] at hb; exact absurd hb (Nat.not_lt_zero _)
        · rw [w2] at hb; exact absurd hb (Nat.not_lt_zero _)
      · obtain ⟨g, hg⟩ : ∃ g, N = g + 1 := ⟨N - 1, by omega⟩
        have : ∀ F, F = g + 1 → L_X8_trims_46 N F m6 (nI st) (nI 1) (nI 0) = some (nI 1, m') := by
          rintro F rfl
          show S_X8_trims_46 N (L_X8_trims_46 N g) m6 (nI st) (nI 1) (nI 0) = _
          unfold S_X8_trims_46
          simp (disch := omega) only [zi_t, zi_f, bnd_t, zg_in, zx, nI_ltI, nI_leI, nI_eq, nI_add, pk_mul, pk_sub, mup_s, mup_c, mup_j, mrw_c, if_pos, if_neg, zm_1, zm_2, zm_3, zm_4, zm_5, zm_6, zm_7, zm_8, zm_9, zf_0, zf_1, zf_2, zf_3, zf_4, zf_5, zf_6, zf_7, zf_8, zf_9, zf_10, zf_14, zf_15, zf_16, zf_18, zf_19, zf_20, zf_24, zf_30, zf_31, zf_32, zf_33, zf_99, zf_100, zf_160, zf_200, zf_287, zf_288, zf_300, zf_1000, zf_1023, zf_1024, zf_1600, zf_3840, zf_25600, zf_36000, zf_1000000, zf_1000000000, zf_2000000000, zf_11560, za_1, za_2, za_4, za_5, za_6, za_7, za_8, za_9, za_10, za_11, za_12, za_14, za_15, za_22, za_23, za_25, za_26, za_27, za_28, za_29, za_30, za_31, za_32, za_33, za_34, za_35, za_41, za_42, za_43, za_44, za_45, za_46, za_47, za_48, za_49, za_61, za_62, za_63, za_64, za_65, za_71, za_72, za_73, za_74, za_75, za_76, za_77, za_78, za_79, za_80, za_81, za_82, za_83, za_84, za_85, za_86, za_87, za_88, za_89, za_90, za_91, za_92, za_93, za_94, za_95, za_96, za_97, za_98, za_99, za_100, za_101, za_102, za_103, za_104, za_105, za_106, za_107, za_108, e20, e84]
          exact a1
        exact this N hg
      · rw [hQ, a3.2 20 (by simp), e20]; rfl
      · show m' 70 27 = eB (endQ E (outQ D W st)) (outQ D W st).length
        rw [hQ]; exact a2
      · exact ⟨by rw [a3.2 26 (by simp), e26]; rfl, fun j q hq => (by simp at hq)⟩
      · intro q
        rw [w2]
/-! what comes of a draft depends on the arcs as a set alone -/
theorem WS.uq {D D' : ArL} {E E' : Nat → Bool} {n n' st : Nat} {W W' : List Nat} (h : WS D E n st W) (h' : WS D' E' n' st W') (hD : ∀ q, q ∈ D ↔ q ∈ D') (hst : st < n) (hst' : st < n') (hok : DOK n D) (hok' : DOK n' D') (hE : ∀ s, s < n → s < n' → E s = E' s) : ∀ s, s ∈ W ↔ s ∈ W' := by
  have ha : ∀ x y, aR D x y ↔ aR D' x y := fun x y => ⟨fun ⟨q, h1, h2⟩ => ⟨q, (hD q).mp h1, h2⟩, fun ⟨q, h1, h2⟩ => ⟨q, (hD q).mpr h1, h2⟩⟩
  have hlt : ∀ (n : Nat) (D : ArL), DOK n D → ∀ s x, s < n → Rc (aR D) s x → x < n := by
    intro n D hok s x hs hx
    refine hx.cl (S := fun x => x < n) hs ?_
    rintro x y _ ⟨q, hq, _, e⟩
    rw [← e]; exact (hok q hq).2.2.1
  intro s
  rw [h.2, h'.2]
  constructor
  · rintro ⟨h1, h2, e, h3, h4, h5⟩
    have k2 : Rc (aR D') st s := h2.mono (fun x y => (ha x y).mp)
    have k5 : Rc (aR D') s e := h5.mono (fun x y => (ha x y).mp)
    have ks := hlt n' D' hok' st s hst' k2
    have ke := hlt n' D' hok' s e ks k5
    exact ⟨ks, k2, e, ke, by rw [← hE e h3 ke]; exact h4, k5⟩
  · rintro ⟨h1, h2, e, h3, h4, h5⟩
    have k2 : Rc (aR D) st s := h2.mono (fun x y => (ha x y).mpr)
    have k5 : Rc (aR D) s e := h5.mono (fun x y => (ha x y).mpr)
    have ks := hlt n D hok st s hst k2
    have ke := hlt n D hok s e ks k5
    exact ⟨ks, k2, e, ke, by rw [hE e ke h3]; exact h4, k5⟩
theorem usA.uq {D D' : ArL} {W W' : List Nat} (hD : ∀ q, q ∈ D ↔ q ∈ D') (hW : ∀ s, s ∈ W ↔ s ∈ W') : usA D W = usA D' W' := by
  refine Cn.uq (S := fun p k => (p, k) ∈ D.filter (inW W)) (Cn.ofL _) ((Cn.ofL _).congr ?_)
  intro p k
  rw [List.mem_filter, List.mem_filter, inW_iff, inW_iff, hD, hW, hW]
theorem big.uq {D D' : ArL} {W W' : List Nat} (hD : ∀ q, q ∈ D ↔ q ∈ D') (hW : ∀ s, s ∈ W ↔ s ∈ W') (hn : W.Nodup) (hn' : W'.Nodup) : tooBig D W ↔ tooBig D' W' := by
  have h1 := nodup_le W W' hn (fun x hx => (hW x).mp hx)
  have h2 := nodup_le W' W hn' (fun x hx => (hW x).mpr hx)
  unfold tooBig
  rw [usA.uq hD hW]
  omega
