theorem rch_out {N st : Nat} {E : Nat → Bool} {D : ArL} {m0 : Mem} {rd0 us0 : Nat → Bool} (hN : 40000 < N) (h : MW m0 E D) (hD : D.length ≤ 36000) (hok : DOK 1024 D) (hr : MR m0 rd0 us0)
    (h1 : ∀ x, rd0 x = true ↔ x = st) (h2 : ∀ x, us0 x = true ↔ x < 1024 ∧ E x = true) :
    ∃ m' rd us, L_X8_reaches_45 N N m0 (nI 1) = some m' ∧ MR m' rd us ∧ Fx 83 85 [] m0 m' ∧ (∀ x, rd x = true ↔ Rc (aR D) st x) ∧ (∀ x, us x = true ↔ ∃ e, e < 1024 ∧ E e = true ∧ Rc (aR D) x e) := by
  refine loopW (σ := Mem × (Nat → Bool) × (Nat → Bool) × Bool) (fun f s => L_X8_reaches_45 N f s.1 (bI s.2.2.2))
    (fun s => MR s.1 s.2.1 s.2.2.1 ∧ Fx 83 85 [] m0 s.1 ∧ (s.2.1 st = true) ∧ (∀ x, x < 1024 → E x = true → s.2.2.1 x = true) ∧ (∀ x, s.2.1 x = true → Rc (aR D) st x) ∧ (∀ x, s.2.2.1 x = true → ∃ e, e < 1024 ∧ E e = true ∧ Rc (aR D) x e) ∧
      (s.2.2.2 = false → (∀ x y, aR D x y → s.2.1 x = true → s.2.1 y = true) ∧ (∀ x y, aR D x y → s.2.2.1 y = true → s.2.2.1 x = true)))
    (fun s => 2 * (2048 - (cnt s.2.1 1024 + cnt s.2.2.1 1024)) + (if s.2.2.2 then 1 else 0))
    (fun o => ∃ m' rd us, o = some m' ∧ MR m' rd us ∧ Fx 83 85 [] m0 m' ∧ (∀ x, rd x = true ↔ Rc (aR D) st x) ∧ (∀ x, us x = true ↔ ∃ e, e < 1024 ∧ E e = true ∧ Rc (aR D) x e))
    ?_ N (m0, rd0, us0, true) ⟨hr, Fx.rf, (h1 st).mpr rfl, fun x hx hE => (h2 x).mpr ⟨hx, hE⟩, fun x hx => by rw [(h1 x).mp hx]; exact Rc.rf, fun x hx => ⟨x, ((h2 x).mp hx).1, ((h2 x).mp hx).2, Rc.rf⟩, fun h => (by cases h)⟩ (by show 2 * (2048 - (cnt rd0 1024 + cnt us0 1024)) + 1 < N; omega)
  rintro f ⟨m, rd, us, g⟩ ⟨k1, k2, k3, k4, k5, k6, k7⟩
  dsimp only at k1 k2 k3 k4 k5 k6 k7
  show (∃ s', _ ∧ _ ∧ S_X8_reaches_45 N (L_X8_reaches_45 N f) m (bI g) = _) ∨ (∃ m' rd us, S_X8_reaches_45 N (L_X8_reaches_45 N f) m (bI g) = _ ∧ _)
  unfold S_X8_reaches_45
  cases g with
  | false =>
    obtain ⟨k8, k9⟩ := k7 rfl
    refine Or.inr ⟨m, rd, us, ?_, k1, k2, ?_, ?_⟩
    · simp (disch := omega) only [zi_t, zi_f, bnd_t, zg_in, zx, nI_ltI, nI_leI, nI_eq, nI_add, pk_mul, pk_sub, mup_s, mup_c, mup_j, mrw_c, if_pos, if_neg, zm_1, zm_2, zm_3, zm_4, zm_5, zm_6, zm_7, zm_8, zm_9, zf_0, zf_1, zf_2, zf_3, zf_4, zf_5, zf_6, zf_7, zf_8, zf_9, zf_10, zf_14, zf_15, zf_16, zf_18, zf_19, zf_20, zf_24, zf_30, zf_31, zf_32, zf_33, zf_99, zf_100, zf_160, zf_200, zf_287, zf_288, zf_300, zf_1000, zf_1023, zf_1024, zf_1600, zf_3840, zf_25600, zf_36000, zf_1000000, zf_1000000000, zf_2000000000, zf_11560, za_1, za_2, za_4, za_5, za_6, za_7, za_8, za_9, za_10, za_11, za_12, za_14, za_15, za_22, za_23, za_25, za_26, za_27, za_28, za_29, za_30, za_31, za_32, za_33, za_34, za_35, za_41, za_42, za_43, za_44, za_45, za_46, za_47, za_48, za_49, za_61, za_62, za_63, za_64, za_65, za_71, za_72, za_73, za_74, za_75, za_76, za_77, za_78, za_79, za_80, za_81, za_82, za_83, za_84, za_85, za_86, za_87, za_88, za_89, za_90, za_91, za_92, za_93, za_94, za_95, za_96, za_97, za_98, za_99, za_100, za_101, za_102, za_103, za_104, za_105, za_106, za_107, za_108, bI_f]
    · intro x
      exact ⟨k5 x, fun hx => hx.cl (S := fun y => rd y = true) k3 (fun y z hy hz => k8 y z hz hy)⟩
    · intro x
      refine ⟨k6 x, ?_⟩
      rintro ⟨e, he, hE, hx⟩
      exact hx.rev.cl (S := fun y => us y = true) (k4 e he hE) (fun y z hy hz => k9 z y hz hy)
  | true =>
    have hW : MW m E D := h.cg (k2.2 14 (by simp)) (k2.1 80 (by omega) (by omega)) (k2.1 81 (by omega) (by omega)) (k2.1 82 (by omega) (by omega))
    obtain ⟨m', rd', us', g', j1, j2, j3, j4, j5, j6, j7, j8, j9⟩ := rch_in (N := N) (rec := L_X8_reaches_45 N f) hN hW hD hok k1
    refine Or.inl ⟨(m', rd', us', g'), ⟨j2, k2.tr j3, j4 st k3, fun x hx hE => j5 x (k4 x hx hE), ?_, ?_, j9⟩, ?_, ?_⟩
    · exact j6 (fun x => Rc (aR D) st x) k5 (fun x y hx hr => hx.st hr)
    · exact j7 (fun x => ∃ e, e < 1024 ∧ E e = true ∧ Rc (aR D) x e) k6 (fun x y ⟨e, he, hE, hy⟩ hr => ⟨e, he, hE, Rc.hd hr hy⟩)
    · show 2 * (2048 - (cnt rd' 1024 + cnt us' 1024)) + (if g' = true then 1 else 0) < 2 * (2048 - (cnt rd 1024 + cnt us 1024)) + 1
      have c1 := cnt_le rd' 1024
      have c2 := cnt_le us' 1024
      have c3 : cnt rd 1024 ≤ cnt rd' 1024 := cnt_mono j4 _
      have c4 : cnt us 1024 ≤ cnt us' 1024 := cnt_mono j5 _
      cases g' with
      | true => have := j8 rfl; rw [if_pos rfl]; omega
      | false => rw [if_neg (by simp)]; omega
    · rw [← j1]
      simp (disch := omega) only [zi_t, zi_f, bnd_t, zg_in, zx, nI_ltI, nI_leI, nI_eq, nI_add, pk_mul, pk_sub, mup_s, mup_c, mup_j, mrw_c, if_pos, if_neg, zm_1, zm_2, zm_3, zm_4, zm_5, zm_6, zm_7, zm_8, zm_9, zf_0, zf_1, zf_2, zf_3, zf_4, zf_5, zf_6, zf_7, zf_8, zf_9, zf_10, zf_14, zf_15, zf_16, zf_18, zf_19, zf_20, zf_24, zf_30, zf_31, zf_32, zf_33, zf_99, zf_100, zf_160, zf_200, zf_287, zf_288, zf_300, zf_1000, zf_1023, zf_1024, zf_1600, zf_3840, zf_25600, zf_36000, zf_1000000, zf_1000000000, zf_2000000000, zf_11560, za_1, za_2, za_4, za_5, za_6, za_7, za_8, za_9, za_10, za_11, za_12, za_14, za_15, za_22, za_23, za_25, za_26, za_27, za_28, za_29, za_30, za_31, za_32, za_33, za_34, za_35, za_41, za_42, za_43, za_44, za_45, za_46, za_47, za_48, za_49, za_61, za_62, za_63, za_64, za_65, za_71, za_72, za_73, za_74, za_75, za_76, za_77, za_78, za_79, za_80, za_81, za_82, za_83, za_84, za_85, za_86, za_87, za_88, za_89, za_90, za_91, za_92, za_93, za_94, za_95, za_96, za_97, za_98, za_99, za_100, za_101, za_102, za_103, za_104, za_105, za_106, za_107, za_108, bI_t]
theorem mw_reaches {N st : Nat} {E : Nat → Bool} {D : ArL} {m : Mem} (hN : 40000 < N) (h : MW m E D) (hD : D.length ≤ 36000) (hok : DOK 1024 D) (hst : st < 1024) :
    ∃ m' rd us, F_X8_reaches N m (nI st) = some m' ∧ MR m' rd us ∧ Fx 83 85 [] m m' ∧ (∀ x, rd x = true ↔ Rc (aR D) st x) ∧ (∀ x, us x = true ↔ ∃ e, e < 1024 ∧ E e = true ∧ Rc (aR D) x e) := by
  unfold F_X8_reaches
  refine loopF (fun f (m : Mem) i => L_X8_reaches_2 N f m (nI st) (nI i)) 1024 (fun i m' => (∀ s, s < i → m' 83 s = bI (decide (s = st)) ∧ m' 84 s = bI (E s)) ∧ Fx 83 85 [] m m') (fun o => ∃ m' rd us, o = some m' ∧ MR m' rd us ∧ Fx 83 85 [] m m' ∧ (∀ x, rd x = true ↔ Rc (aR D) st x) ∧ (∀ x, us x = true ↔ ∃ e, e < 1024 ∧ E e = true ∧ Rc (aR D) x e)) ?_ ?_ N 0 m (by omega) ⟨fun s hs => absurd hs (Nat.not_lt_zero _), Fx.rf⟩ (by omega)
  · rintro f i m1 hi ⟨h1, h2⟩
    have e82 := (h2.at (c := 82) (by omega) (by omega) i).trans (h.2.2 i hi)
    refine Or.inl ⟨mup (mup m1 83 i (bI (decide (i = st)))) 84 i (bI (E i)), ⟨?_, (h2.up (by omega) (by omega) (by omega)).up (by omega) (by omega) (by omega)⟩, ?_⟩
    · intro s hs
      rw [mup_c (by omega), mup_if, mup_if]
      by_cases e : s = i
      · rw [if_pos e, if_pos e, e]; exact ⟨rfl, rfl⟩
      · rw [if_neg e, if_neg e, mup_c (by omega)]; exact h1 s (by omega)
    · show S_X8_reaches_2 N (L_X8_reaches_2 N f) m1 (nI st) (nI i) = _
      unfold S_X8_reaches_2 B_X8_reaches_24
      by_cases e : i = st
      · rw [decide_eq_true e, bI_t]
        simp (disch := omega) only [zi_t, zi_f, bnd_t, zg_in, zx, nI_ltI, nI_leI, nI_eq, nI_add, pk_mul, pk_sub, mup_s, mup_c, mup_j, mrw_c, if_pos, if_neg, zm_1, zm_2, zm_3, zm_4, zm_5, zm_6, zm_7, zm_8, zm_9, zf_0, zf_1, zf_2, zf_3, zf_4, zf_5, zf_6, zf_7, zf_8, zf_9, zf_10, zf_14, zf_15, zf_16, zf_18, zf_19, zf_20, zf_24, zf_30, zf_31, zf_32, zf_33, zf_99, zf_100, zf_160, zf_200, zf_287, zf_288, zf_300, zf_1000, zf_1023, zf_1024, zf_1600, zf_3840, zf_25600, zf_36000, zf_1000000, zf_1000000000, zf_2000000000, zf_11560, za_1, za_2, za_4, za_5, za_6, za_7, za_8, za_9, za_10, za_11, za_12, za_14, za_15, za_22, za_23, za_25, za_26, za_27, za_28, za_29, za_30, za_31, za_32, za_33, za_34, za_35, za_41, za_42, za_43, za_44, za_45, za_46, za_47, za_48, za_49, za_61, za_62, za_63, za_64, za_65, za_71, za_72, za_73, za_74, za_75, za_76, za_77, za_78, za_79, za_80, za_81, za_82, za_83, za_84, za_85, za_86, za_87, za_88, za_89, za_90, za_91, za_92, za_93, za_94, za_95, za_96, za_97, za_98, za_99, za_100, za_101, za_102, za_103, za_104, za_105, za_106, za_107, za_108, e82, gd_t (show isb (nI 1) = true from rfl), gd_t (bI_isb (E i))]
      · rw [decide_eq_false e, bI_f]
        simp (disch := omega) only [zi_t, zi_f, bnd_t, zg_in, zx, nI_ltI, nI_leI, nI_eq, nI_add, pk_mul, pk_sub, mup_s, mup_c, mup_j, mrw_c, if_pos, if_neg, zm_1, zm_2, zm_3, zm_4, zm_5, zm_6, zm_7, zm_8, zm_9, zf_0, zf_1, zf_2, zf_3, zf_4, zf_5, zf_6, zf_7, zf_8, zf_9, zf_10, zf_14, zf_15, zf_16, zf_18, zf_19, zf_20, zf_24, zf_30, zf_31, zf_32, zf_33, zf_99, zf_100, zf_160, zf_200, zf_287, zf_288, zf_300, zf_1000, zf_1023, zf_1024, zf_1600, zf_3840, zf_25600, zf_36000, zf_1000000, zf_1000000000, zf_2000000000, zf_11560, za_1, za_2, za_4, za_5, za_6, za_7, za_8, za_9, za_10, za_11, za_12, za_14, za_15, za_22, za_23, za_25, za_26, za_27, za_28, za_29, za_30, za_31, za_32, za_33, za_34, za_35, za_41, za_42, za_43, za_44, za_45, za_46, za_47, za_48, za_49, za_61, za_62, za_63, za_64, za_65, za_71, za_72, za_73, za_74, za_75, za_76, za_77, za_78, za_79, za_80, za_81, za_82, za_83, za_84, za_85, za_86, za_87, za_88, za_89, za_90, za_91, za_92, za_93, za_94, za_95, za_96, za_97, za_98, za_99, za_100, za_101, za_102, za_103, za_104, za_105, za_106, za_107, za_108, e82, gd_t (show isb (nI 0) = true from rfl), gd_t (bI_isb (E i))]
  · rintro f m1 ⟨h1, h2⟩
    have hW : MW m1 E D := h.cg (h2.2 14 (by simp)) (h2.1 80 (by omega) (by omega)) (h2.1 81 (by omega) (by omega)) (h2.1 82 (by omega) (by omega))
    obtain ⟨m', rd, us, g1, g2, g3, g4, g5⟩ := rch_out (st := st) (rd0 := fun x => decide (x = st)) (us0 := fun x => decide (x < 1024) && E x) hN hW hD hok (fun s hs => ⟨(h1 s hs).1, by rw [(h1 s hs).2]; simp [hs]⟩) (by simp) (by simp)
    refine ⟨m', rd, us, ?_, g2, h2.tr g3, g4, g5⟩
    show S_X8_reaches_2 N (L_X8_reaches_2 N f) m1 (nI st) (nI 1024) = _
    unfold S_X8_reaches_2
    simp (disch := omega) only [zi_t, zi_f, bnd_t, zg_in, zx, nI_ltI, nI_leI, nI_eq, nI_add, pk_mul, pk_sub, mup_s, mup_c, mup_j, mrw_c, if_pos, if_neg, zm_1, zm_2, zm_3, zm_4, zm_5, zm_6, zm_7, zm_8, zm_9, zf_0, zf_1, zf_2, zf_3, zf_4, zf_5, zf_6, zf_7, zf_8, zf_9, zf_10, zf_14, zf_15, zf_16, zf_18, zf_19, zf_20, zf_24, zf_30, zf_31, zf_32, zf_33, zf_99, zf_100, zf_160, zf_200, zf_287, zf_288, zf_300, zf_1000, zf_1023, zf_1024, zf_1600, zf_3840, zf_25600, zf_36000, zf_1000000, zf_1000000000, zf_2000000000, zf_11560, za_1, za_2, za_4, za_5, za_6, za_7, za_8, za_9, za_10, za_11, za_12, za_14, za_15, za_22, za_23, za_25, za_26, za_27, za_28, za_29, za_30, za_31, za_32, za_33, za_34, za_35, za_41, za_42, za_43, za_44, za_45, za_46, za_47, za_48, za_49, za_61, za_62, za_63, za_64, za_65, za_71, za_72, za_73, za_74, za_75, za_76, za_77, za_78, za_79, za_80, za_81, za_82, za_83, za_84, za_85, za_86, za_87, za_88, za_89, za_90, za_91, za_92, za_93, za_94, za_95, za_96, za_97, za_98, za_99, za_100, za_101, za_102, za_103, za_104, za_105, za_106, za_107, za_108]
    exact g1
/-! the next arc of a state, in their order -/
def Cand (D : ArL) (rd us : Nat → Bool) (s lim : Nat) (q : Nat × Nat) : Prop := fr q.1 = s ∧ lim ≤ q.1 ∧ rd (too q.1) = true ∧ us (too q.1) = true
theorem mw_next {N s lim : Nat} {E : Nat → Bool} {D : ArL} {m : Mem} {rd us : Nat → Bool} {x2 : Int32} (hN : 40000 < N) (h : MW m E D) (hD : D.length ≤ 36000) (hok : DOK 1024 D) (hr : MR m rd us) (hs : s < 1024) (hx : (x2 = nM ∧ lim = 0) ∨ (x2 = nI (lim - 1) ∧ 0 < lim ∧ lim < 2 ^ 30)) :
    ∃ x, F_X8_nextArc N m (nI s) x2 = some (x, m) ∧ ((x = nM ∧ ∀ q, q ∈ D → ¬ Cand D rd us s lim q) ∨ (∃ w q, x = nI w ∧ w < D.length ∧ D[w]? = some q ∧ Cand D rd us s lim q ∧ ∀ q', q' ∈ D → Cand D rd us s lim q' → q.1 < q'.1 ∨ (q.1 = q'.1 ∧ q.2 ≤ q'.2))) := by
  unfold F_X8_nextArc
  simp (disch := omega) only [zi_t, zi_f, bnd_t, zg_in, zx, nI_ltI, nI_leI, nI_eq, nI_add, pk_mul, pk_sub, mup_s, mup_c, mup_j, mrw_c, if_pos, if_neg, zm_1, zm_2, zm_3, zm_4, zm_5, zm_6, zm_7, zm_8, zm_9, zf_0, zf_1, zf_2, zf_3, zf_4, zf_5, zf_6, zf_7, zf_8, zf_9, zf_10, zf_14, zf_15, zf_16, zf_18, zf_19, zf_20, zf_24, zf_30, zf_31, zf_32, zf_33, zf_99, zf_100, zf_160, zf_200, zf_287, zf_288, zf_300, zf_1000, zf_1023, zf_1024, zf_1600, zf_3840, zf_25600, zf_36000, zf_1000000, zf_1000000000, zf_2000000000, zf_11560, za_1, za_2, za_4, za_5, za_6, za_7, za_8, za_9, za_10, za_11, za_12, za_14, za_15, za_22, za_23, za_25, za_26, za_27, za_28, za_29, za_30, za_31, za_32, za_33, za_34, za_35, za_41, za_42, za_43, za_44, za_45, za_46, za_47, za_48, za_49, za_61, za_62, za_63, za_64, za_65, za_71, za_72, za_73, za_74, za_75, za_76, za_77, za_78, za_79, za_80, za_81, za_82, za_83, za_84, za_85, za_86, za_87, za_88, za_89, za_90, za_91, za_92, za_93, za_94, za_95, za_96, za_97, za_98, za_99, za_100, za_101, za_102, za_103, za_104, za_105, za_106, za_107, za_108]
  refine loopF (σ := Int32) (fun f x i => L_X8_nextArc_5 N f m (nI s) x2 x (nI i)) D.length
    (fun i x => (x = nM ∧ ∀ j q, j < i → D[j]? = some q → ¬ Cand D rd us s lim q) ∨ (∃ w q, x = nI w ∧ w < D.length ∧ D[w]? = some q ∧ Cand D rd us s lim q ∧ ∀ j q', j < i → D[j]? = some q' → Cand D rd us s lim q' → q.1 < q'.1 ∨ (q.1 = q'.1 ∧ q.2 ≤ q'.2)))
    (fun o => ∃ x, o = some (x, m) ∧ ((x = nM ∧ ∀ q, q ∈ D → ¬ Cand D rd us s lim q) ∨ (∃ w q, x = nI w ∧ w < D.length ∧ D[w]? = some q ∧ Cand D rd us s lim q ∧ ∀ q', q' ∈ D → Cand D rd us s lim q' → q.1 < q'.1 ∨ (q.1 = q'.1 ∧ q.2 ≤ q'.2))))
    ?_ ?_ N 0 nM (Nat.zero_le _) (Or.inl ⟨rfl, fun j q hj => absurd hj (Nat.not_lt_zero _)⟩) (by omega)
  · intro f i x hi hI
    obtain ⟨q, hq⟩ : ∃ q, D[i]? = some q := ⟨_, List.getElem?_eq_getElem hi⟩
    have hqm := hok q (List.mem_of_getElem? hq)
    have hq1 := hqm.1
    have hsq : q.1 / 262144 < 1024 := hqm.2.1
    have ht : q.1 % 1024 < 1024 := hqm.2.2.1
    have hqc := hqm.2.2.2.2.2
    have e14 := h.1
    have e80 := (h.2.1 i q hq).1
    have e81 := (h.2.1 i q hq).2
    have ert := (hr _ ht).1
    have eut := (hr _ ht).2
    have hle : (nI q.1 ≤ x2) = (q.1 < lim) := by
      rcases hx with ⟨rfl, rfl⟩ | ⟨rfl, h1, h2⟩
      · rw [zm_5 (by omega)]; exact (eq_false (Nat.not_lt_zero _)).symm
      · rw [nI_leI (by omega) (by omega)]
        exact propext ⟨fun h => by omega, fun h => by omega⟩
    have hskip : ¬ Cand D rd us s lim q → S_X8_nextArc_5 N (L_X8_nextArc_5 N f) m (nI s) x2 x (nI i) = L_X8_nextArc_5 N f m (nI s) x2 x (nI (i + 1)) := by
      intro hc
      unfold S_X8_nextArc_5 B_X8_nextArc_75
      by_cases c1 : q.1 / 262144 = s
      · by_cases c2 : q.1 < lim
        · unfold B_X8_nextArc_76 B_X8_nextArc_141 B_X8_nextArc_142
          simp (disch := omega) only [zi_t, zi_f, bnd_t, zg_in, zx, nI_ltI, nI_leI, nI_eq, nI_add, pk_mul, pk_sub, mup_s, mup_c, mup_j, mrw_c, if_pos, if_neg, zm_1, zm_2, zm_3, zm_4, zm_5, zm_6, zm_7, zm_8, zm_9, zf_0, zf_1, zf_2, zf_3, zf_4, zf_5, zf_6, zf_7, zf_8, zf_9, zf_10, zf_14, zf_15, zf_16, zf_18, zf_19, zf_20, zf_24, zf_30, zf_31, zf_32, zf_33, zf_99, zf_100, zf_160, zf_200, zf_287, zf_288, zf_300, zf_1000, zf_1023, zf_1024, zf_1600, zf_3840, zf_25600, zf_36000, zf_1000000, zf_1000000000, zf_2000000000, zf_11560, za_1, za_2, za_4, za_5, za_6, za_7, za_8, za_9, za_10, za_11, za_12, za_14, za_15, za_22, za_23, za_25, za_26, za_27, za_28, za_29, za_30, za_31, za_32, za_33, za_34, za_35, za_41, za_42, za_43, za_44, za_45, za_46, za_47, za_48, za_49, za_61, za_62, za_63, za_64, za_65, za_71, za_72, za_73, za_74, za_75, za_76, za_77, za_78, za_79, za_80, za_81, za_82, za_83, za_84, za_85, za_86, za_87, za_88, za_89, za_90, za_91, za_92, za_93, za_94, za_95, za_96, za_97, za_98, za_99, za_100, za_101, za_102, za_103, za_104, za_105, za_106, za_107, za_108, e14, e80, pk_src, pk_tgt, c1, hle]
        · by_cases c3 : rd (q.1 % 1024) = true
          · have c4 : us (q.1 % 1024) = false := by
              cases hu : us (q.1 % 1024) with
              | false => rfl
              | true => exact absurd ⟨c1, by omega, c3, hu⟩ hc
            rw [c3, bI_t] at ert
            rw [c4, bI_f] at eut
            unfold B_X8_nextArc_76 B_X8_nextArc_141 B_X8_nextArc_142
            simp (disch := omega) only [zi_t, zi_f, bnd_t, zg_in, zx, nI_ltI, nI_leI, nI_eq, nI_add, pk_mul, pk_sub, mup_s, mup_c, mup_j, mrw_c, if_pos, if_neg, zm_1, zm_2, zm_3, zm_4, zm_5, zm_6, zm_7, zm_8, zm_9, zf_0, zf_1, zf_2, zf_3, zf_4, zf_5, zf_6, zf_7, zf_8, zf_9, zf_10, zf_14, zf_15, zf_16, zf_18, zf_19, zf_20, zf_24, zf_30, zf_31, zf_32, zf_33, zf_99, zf_100, zf_160, zf_200, zf_287, zf_288, zf_300, zf_1000, zf_1023, zf_1024, zf_1600, zf_3840, zf_25600, zf_36000, zf_1000000, zf_1000000000, zf_2000000000, zf_11560, za_1, za_2, za_4, za_5, za_6, za_7, za_8, za_9, za_10, za_11, za_12, za_14, za_15, za_22, za_23, za_25, za_26, za_27, za_28, za_29, za_30, za_31, za_32, za_33, za_34, za_35, za_41, za_42, za_43, za_44, za_45, za_46, za_47, za_48, za_49, za_61, za_62, za_63, za_64, za_65, za_71, za_72, za_73, za_74, za_75, za_76, za_77, za_78, za_79, za_80, za_81, za_82, za_83, za_84, za_85, za_86, za_87, za_88, za_89, za_90, za_91, za_92, za_93, za_94, za_95, za_96, za_97, za_98, za_99, za_100, za_101, za_102, za_103, za_104, za_105, za_106, za_107, za_108, e14, e80, pk_src, pk_tgt, c1, hle, ert, eut]
          · have c4 : rd (q.1 % 1024) = false := by
              cases hu : rd (q.1 % 1024) with
              | false => rfl
              | true => exact absurd hu c3
            rw [c4, bI_f] at ert
            unfold B_X8_nextArc_76 B_X8_nextArc_141 B_X8_nextArc_142
            simp (disch := omega) only [zi_t, zi_f, bnd_t, zg_in, zx, nI_ltI, nI_leI, nI_eq, nI_add, pk_mul, pk_sub, mup_s, mup_c, mup_j, mrw_c, if_pos, if_neg, zm_1, zm_2, zm_3, zm_4, zm_5, zm_6, zm_7, zm_8, zm_9, zf_0, zf_1, zf_2, zf_3, zf_4, zf_5, zf_6, zf_7, zf_8, zf_9, zf_10, zf_14, zf_15, zf_16, zf_18, zf_19, zf_20, zf_24, zf_30, zf_31, zf_32, zf_33, zf_99, zf_100, zf_160, zf_200, zf_287, zf_288, zf_300, zf_1000, zf_1023, zf_1024, zf_1600, zf_3840, zf_25600, zf_36000, zf_1000000, zf_1000000000, zf_2000000000, zf_11560, za_1, za_2, za_4, za_5, za_6, za_7, za_8, za_9, za_10, za_11, za_12, za_14, za_15, za_22, za_23, za_25, za_26, za_27, za_28, za_29, za_30, za_31, za_32, za_33, za_34, za_35, za_41, za_42, za_43, za_44, za_45, za_46, za_47, za_48, za_49, za_61, za_62, za_63, za_64, za_65, za_71, za_72, za_73, za_74, za_75, za_76, za_77, za_78, za_79, za_80, za_81, za_82, za_83, za_84, za_85, za_86, za_87, za_88, za_89, za_90, za_91, za_92, za_93, za_94, za_95, za_96, za_97, za_98, za_99, za_100, za_101, za_102, za_103, za_104, za_105, za_106, za_107, za_108, e14, e80, pk_src, pk_tgt, c1, hle, ert]
      · unfold B_X8_nextArc_76 B_X8_nextArc_141 B_X8_nextArc_142
        simp (disch := omega) only [zi_t, zi_f, bnd_t, zg_in, zx, nI_ltI, nI_leI, nI_eq, nI_add, pk_mul, pk_sub, mup_s, mup_c, mup_j, mrw_c, if_pos, if_neg, zm_1, zm_2, zm_3, zm_4, zm_5, zm_6, zm_7, zm_8, zm_9, zf_0, zf_1, zf_2, zf_3, zf_4, zf_5, zf_6, zf_7, zf_8, zf_9, zf_10, zf_14, zf_15, zf_16, zf_18, zf_19, zf_20, zf_24, zf_30, zf_31, zf_32, zf_33, zf_99, zf_100, zf_160, zf_200, zf_287, zf_288, zf_300, zf_1000, zf_1023, zf_1024, zf_1600, zf_3840, zf_25600, zf_36000, zf_1000000, zf_1000000000, zf_2000000000, zf_11560, za_1, za_2, za_4, za_5, za_6, za_7, za_8, za_9, za_10, za_11, za_12, za_14, za_15, za_22, za_23, za_25, za_26, za_27, za_28, za_29, za_30, za_31, za_32, za_33, za_34, za_35, za_41, za_42, za_43, za_44, za_45, za_46, za_47, za_48, za_49, za_61, za_62, za_63, za_64, za_65, za_71, za_72, za_73, za_74, za_75, za_76, za_77, za_78, za_79, za_80, za_81, za_82, za_83, za_84, za_85, za_86, za_87, za_88, za_89, za_90, za_91, za_92, za_93, za_94, za_95, za_96, za_97, za_98, za_99, za_100, za_101, za_102, za_103, za_104, za_105, za_106, za_107, za_108, e14, e80, pk_src, pk_tgt]
    have htake : Cand D rd us s lim q → S_X8_nextArc_5 N (L_X8_nextArc_5 N f) m (nI s) x2 x (nI i) = B_X8_nextArc_76 N (L_X8_nextArc_5 N f) m (nI s) x2 x (nI i) (nI 1) := by
      rintro ⟨c1, c2, c3, c4⟩
      have c1 : q.1 / 262144 = s := c1
      have c3 : rd (q.1 % 1024) = true := c3
      have c4 : us (q.1 % 1024) = true := c4
      rw [c3, bI_t] at ert
      rw [c4, bI_t] at eut
      unfold S_X8_nextArc_5
      simp (disch := omega) only [zi_t, zi_f, bnd_t, zg_in, zx, nI_ltI, nI_leI, nI_eq, nI_add, pk_mul, pk_sub, mup_s, mup_c, mup_j, mrw_c, if_pos, if_neg, zm_1, zm_2, zm_3, zm_4, zm_5, zm_6, zm_7, zm_8, zm_9, zf_0, zf_1, zf_2, zf_3, zf_4, zf_5, zf_6, zf_7, zf_8, zf_9, zf_10, zf_14, zf_15, zf_16, zf_18, zf_19, zf_20, zf_24, zf_30, zf_31, zf_32, zf_33, zf_99, zf_100, zf_160, zf_200, zf_287, zf_288, zf_300, zf_1000, zf_1023, zf_1024, zf_1600, zf_3840, zf_25600, zf_36000, zf_1000000, zf_1000000000, zf_2000000000, zf_11560, za_1, za_2, za_4, za_5, za_6, za_7, za_8, za_9, za_10, za_11, za_12, za_14, za_15, za_22, za_23, za_25, za_26, za_27, za_28, za_29, za_30, za_31, za_32, za_33, za_34, za_35, za_41, za_42, za_43, za_44, za_45, za_46, za_47, za_48, za_49, za_61, za_62, za_63, za_64, za_65, za_71, za_72, za_73, za_74, za_75, za_76, za_77, za_78, za_79, za_80, za_81, za_82, za_83, za_84, za_85, za_86, za_87, za_88, za_89, za_90, za_91, za_92, za_93, za_94, za_95, za_96, za_97, za_98, za_99, za_100, za_101, za_102, za_103, za_104, za_105, za_106, za_107, za_108, e14, e80, pk_src, pk_tgt, c1, hle, ert, eut]
    refine Or.inl ?_
    by_cases hc : Cand D rd us s lim q
    · rcases hI with ⟨rfl, h0⟩ | ⟨w, qw, rfl, hw, hqw, hcw, hmin⟩
      · refine ⟨nI i, Or.inr ⟨i, q, rfl, hi, hq, hc, ?_⟩, ?_⟩
        · intro j q' hj hq' hc'
          by_cases e : j = i
          · subst e; rw [hq] at hq'; rw [Option.some.inj hq']; exact Or.inr ⟨rfl, Nat.le_refl _⟩
          · exact absurd hc' (h0 j q' (by omega) hq')
        · show S_X8_nextArc_5 N (L_X8_nextArc_5 N f) m (nI s) x2 nM (nI i) = _
          rw [htake hc]
          unfold B_X8_nextArc_76 B_X8_nextArc_136 B_X8_nextArc_142
          simp (disch := omega) only [zi_t, zi_f, bnd_t, zg_in, zx, nI_ltI, nI_leI, nI_eq, nI_add, pk_mul, pk_sub, mup_s, mup_c, mup_j, mrw_c, if_pos, if_neg, zm_1, zm_2, zm_3, zm_4, zm_5, zm_6, zm_7, zm_8, zm_9, zf_0, zf_1, zf_2, zf_3, zf_4, zf_5, zf_6, zf_7, zf_8, zf_9, zf_10, zf_14, zf_15, zf_16, zf_18, zf_19, zf_20, zf_24, zf_30, zf_31, zf_32, zf_33, zf_99, zf_100, zf_160, zf_200, zf_287, zf_288, zf_300, zf_1000, zf_1023, zf_1024, zf_1600, zf_3840, zf_25600, zf_36000, zf_1000000, zf_1000000000, zf_2000000000, zf_11560, za_1, za_2, za_4, za_5, za_6, za_7, za_8, za_9, za_10, za_11, za_12, za_14, za_15, za_22, za_23, za_25, za_26, za_27, za_28, za_29, za_30, za_31, za_32, za_33, za_34, za_35, za_41, za_42, za_43, za_44, za_45, za_46, za_47, za_48, za_49, za_61, za_62, za_63, za_64, za_65, za_71, za_72, za_73, za_74, za_75, za_76, za_77, za_78, za_79, za_80, za_81, za_82, za_83, za_84, za_85, za_86, za_87, za_88, za_89, za_90, za_91, za_92, za_93, za_94, za_95, za_96, za_97, za_98, za_99, za_100, za_101, za_102, za_103, za_104, za_105, za_106, za_107, za_108]
      · have hwm := hok qw (List.mem_of_getElem? hqw)
        have hw1 := hwm.1
        have hwc := hwm.2.2.2.2.2
        have w80 := (h.2.1 w qw hqw).1
        have w81 := (h.2.1 w qw hqw).2
        have ht2 := htake hc
        by_cases c : q.1 < qw.1 ∨ (q.1 = qw.1 ∧ q.2 < qw.2)
        · refine ⟨nI i, Or.inr ⟨i, q, rfl, hi, hq, hc, ?_⟩, ?_⟩
          · intro j q' hj hq' hc'
            by_cases e : j = i
            · subst e; rw [hq] at hq'; rw [Option.some.inj hq']; exact Or.inr ⟨rfl, Nat.le_refl _⟩
            · rcases hmin j q' (by omega) hq' hc' with e2 | e2 <;> omega
          · show S_X8_nextArc_5 N (L_X8_nextArc_5 N f) m (nI s) x2 (nI w) (nI i) = _
            rw [ht2]
            unfold B_X8_nextArc_76 B_X8_nextArc_136 B_X8_nextArc_142
            rcases c with c | ⟨c, c'⟩
            · simp (disch := omega) only [zi_t, zi_f, bnd_t, zg_in, zx, nI_ltI, nI_leI, nI_eq, nI_add, pk_mul, pk_sub, mup_s, mup_c, mup_j, mrw_c, if_pos, if_neg, zm_1, zm_2, zm_3, zm_4, zm_5, zm_6, zm_7, zm_8, zm_9, zf_0, zf_1, zf_2, zf_3, zf_4, zf_5, zf_6, zf_7, zf_8, zf_9, zf_10, zf_14, zf_15, zf_16, zf_18, zf_19, zf_20, zf_24, zf_30, zf_31, zf_32, zf_33, zf_99, zf_100, zf_160, zf_200, zf_287, zf_288, zf_300, zf_1000, zf_1023, zf_1024, zf_1600, zf_3840, zf_25600, zf_36000, zf_1000000, zf_1000000000, zf_2000000000, zf_11560, za_1, za_2, za_4, za_5, za_6, za_7, za_8, za_9, za_10, za_11, za_12, za_14, za_15, za_22, za_23, za_25, za_26, za_27, za_28, za_29, za_30, za_31, za_32, za_33, za_34, za_35, za_41, za_42, za_43, za_44, za_45, za_46, za_47, za_48, za_49, za_61, za_62, za_63, za_64, za_65, za_71, za_72, za_73, za_74, za_75, za_76, za_77, za_78, za_79, za_80, za_81, za_82, za_83, za_84, za_85, za_86, za_87, za_88, za_89, za_90, za_91, za_92, za_93, za_94, za_95, za_96, za_97, za_98, za_99, za_100, za_101, za_102, za_103, za_104, za_105, za_106, za_107, za_108, e80, e81, w80, w81]
            · simp (disch := omega) only [zi_t, zi_f, bnd_t, zg_in, zx, nI_ltI, nI_leI, nI_eq, nI_add, pk_mul, pk_sub, mup_s, mup_c, mup_j, mrw_c, if_pos, if_neg, zm_1, zm_2, zm_3, zm_4, zm_5, zm_6, zm_7, zm_8, zm_9, zf_0, zf_1, zf_2, zf_3, zf_4, zf_5, zf_6, zf_7, zf_8, zf_9, zf_10, zf_14, zf_15, zf_16, zf_18, zf_19, zf_20, zf_24, zf_30, zf_31, zf_32, zf_33, zf_99, zf_100, zf_160, zf_200, zf_287, zf_288, zf_300, zf_1000, zf_1023, zf_1024, zf_1600, zf_3840, zf_25600, zf_36000, zf_1000000, zf_1000000000, zf_2000000000, zf_11560, za_1, za_2, za_4, za_5, za_6, za_7, za_8, za_9, za_10, za_11, za_12, za_14, za_15, za_22, za_23, za_25, za_26, za_27, za_28, za_29, za_30, za_31, za_32, za_33, za_34, za_35, za_41, za_42, za_43, za_44, za_45, za_46, za_47, za_48, za_49, za_61, za_62, za_63, za_64, za_65, za_71, za_72, za_73, za_74, za_75, za_76, za_77, za_78, za_79, za_80, za_81, za_82, za_83, za_84, za_85, za_86, za_87, za_88, za_89, za_90, za_91, za_92, za_93, za_94, za_95, za_96, za_97, za_98, za_99, za_100, za_101, za_102, za_103, za_104, za_105, za_106, za_107, za_108, e80, e81, w80, w81]
        · refine ⟨nI w, Or.inr ⟨w, qw, rfl, hw, hqw, hcw, ?_⟩, ?_⟩
          · intro j q' hj hq' hc'
            by_cases e : j = i
            · subst e; rw [hq] at hq'; rw [← Option.some.inj hq']; omega
            · exact hmin j q' (by omega) hq' hc'
          · show S_X8_nextArc_5 N (L_X8_nextArc_5 N f) m (nI s) x2 (nI w) (nI i) = _
            rw [ht2]
            unfold B_X8_nextArc_76 B_X8_nextArc_141 B_X8_nextArc_142
            by_cases c2 : q.1 = qw.1
            · simp (disch := omega) only [zi_t, zi_f, bnd_t, zg_in, zx, nI_ltI, nI_leI, nI_eq, nI_add, pk_mul, pk_sub, mup_s, mup_c, mup_j, mrw_c, if_pos, if_neg, zm_1, zm_2, zm_3, zm_4, zm_5, zm_6, zm_7, zm_8, zm_9, zf_0, zf_1, zf_2, zf_3, zf_4, zf_5, zf_6, zf_7, zf_8, zf_9, zf_10, zf_14, zf_15, zf_16, zf_18, zf_19, zf_20, zf_24, zf_30, zf_31, zf_32, zf_33, zf_99, zf_100, zf_160, zf_200, zf_287, zf_288, zf_300, zf_1000, zf_1023, zf_1024, zf_1600, zf_3840, zf_25600, zf_36000, zf_1000000, zf_1000000000, zf_2000000000, zf_11560, za_1, za_2, za_4, za_5, za_6, za_7, za_8, za_9, za_10, za_11, za_12, za_14, za_15, za_22, za_23, za_25, za_26, za_27, za_28, za_29, za_30, za_31, za_32, za_33, za_34, za_35, za_41, za_42, za_43, za_44, za_45, za_46, za_47, za_48, za_49, za_61, za_62, za_63, za_64, za_65, za_71, za_72, za_73, za_74, za_75, za_76, za_77, za_78, za_79, za_80, za_81, za_82, za_83, za_84, za_85, za_86, za_87, za_88, za_89, za_90, za_91, za_92, za_93, za_94, za_95, za_96, za_97, za_98, za_99, za_100, za_101, za_102, za_103, za_104, za_105, za_106, za_107, za_108, e80, e81, w80, w81]
            · simp (disch := omega) only [zi_t, zi_f, bnd_t, zg_in, zx, nI_ltI, nI_leI, nI_eq, nI_add, pk_mul, pk_sub, mup_s, mup_c, mup_j, mrw_c, if_pos, if_neg, zm_1, zm_2, zm_3, zm_4, zm_5, zm_6, zm_7, zm_8, zm_9, zf_0, zf_1, zf_2, zf_3, zf_4, zf_5, zf_6, zf_7, zf_8, zf_9, zf_10, zf_14, zf_15, zf_16, zf_18, zf_19, zf_20, zf_24, zf_30, zf_31, zf_32, zf_33, zf_99, zf_100, zf_160, zf_200, zf_287, zf_288, zf_300, zf_1000, zf_1023, zf_1024, zf_1600, zf_3840, zf_25600, zf_36000, zf_1000000, zf_1000000000, zf_2000000000, zf_11560, za_1, za_2, za_4, za_5, za_6, za_7, za_8, za_9, za_10, za_11, za_12, za_14, za_15, za_22, za_23, za_25, za_26, za_27, za_28, za_29, za_30, za_31, za_32, za_33, za_34, za_35, za_41, za_42, za_43, za_44, za_45, za_46, za_47, za_48, za_49, za_61, za_62, za_63, za_64, za_65, za_71, za_72, za_73, za_74, za_75, za_76, za_77, za_78, za_79, za_80, za_81, za_82, za_83, za_84, za_85, za_86, za_87, za_88, za_89, za_90, za_91, za_92, za_93, za_94, za_95, za_96, za_97, za_98, za_99, za_100, za_101, za_102, za_103, za_104, za_105, za_106, za_107, za_108, e80, e81, w80, w81]
    · refine ⟨x, ?_, hskip hc⟩
      rcases hI with ⟨h1, h0⟩ | ⟨w, qw, h1, hw, hqw, hcw, hmin⟩
      · refine Or.inl ⟨h1, ?_⟩
        intro j q' hj hq'
        by_cases e : j = i
        · subst e; rw [hq] at hq'; rw [← Option.some.inj hq']; exact hc
        · exact h0 j q' (by omega) hq'
      · refine Or.inr ⟨w, qw, h1, hw, hqw, hcw, ?_⟩
        intro j q' hj hq' hc'
        by_cases e : j = i
        · subst e; rw [hq] at hq'; rw [← Option.some.inj hq'] at hc'; exact absurd hc' hc
        · exact hmin j q' (by omega) hq' hc'
  · intro f x hI
    have e14 := h.1
    refine ⟨x, ?_, ?_⟩
    · show S_X8_nextArc_5 N (L_X8_nextArc_5 N f) m (nI s) x2 x (nI D.length) = _
      unfold S_X8_nextArc_5
      simp (disch := omega) only [zi_t, zi_f, bnd_t, zg_in, zx, nI_ltI, nI_leI, nI_eq, nI_add, pk_mul, pk_sub, mup_s, mup_c, mup_j, mrw_c, if_pos, if_neg, zm_1, zm_2, zm_3, zm_4, zm_5, zm_6, zm_7, zm_8, zm_9, zf_0, zf_1, zf_2, zf_3, zf_4, zf_5, zf_6, zf_7, zf_8, zf_9, zf_10, zf_14, zf_15, zf_16, zf_18, zf_19, zf_20, zf_24, zf_30, zf_31, zf_32, zf_33, zf_99, zf_100, zf_160, zf_200, zf_287, zf_288, zf_300, zf_1000, zf_1023, zf_1024, zf_1600, zf_3840, zf_25600, zf_36000, zf_1000000, zf_1000000000, zf_2000000000, zf_11560, za_1, za_2, za_4, za_5, za_6, za_7, za_8, za_9, za_10, za_11, za_12, za_14, za_15, za_22, za_23, za_25, za_26, za_27, za_28, za_29, za_30, za_31, za_32, za_33, za_34, za_35, za_41, za_42, za_43, za_44, za_45, za_46, za_47, za_48, za_49, za_61, za_62, za_63, za_64, za_65, za_71, za_72, za_73, za_74, za_75, za_76, za_77, za_78, za_79, za_80, za_81, za_82, za_83, za_84, za_85, za_86, za_87, za_88, za_89, za_90, za_91, za_92, za_93, za_94, za_95, za_96, za_97, za_98, za_99, za_100, za_101, za_102, za_103, za_104, za_105, za_106, za_107, za_108, e14]
    · rcases hI with ⟨h1, h0⟩ | ⟨w, qw, h1, hw, hqw, hcw, hmin⟩
      · refine Or.inl ⟨h1, ?_⟩
        intro q hq
        obtain ⟨j, hj⟩ := List.getElem?_of_mem hq
        exact h0 j q (List.getElem?_eq_some_iff.mp hj).1 hj
      · refine Or.inr ⟨w, qw, h1, hw, hqw, hcw, ?_⟩
        intro q hq
        obtain ⟨j, hj⟩ := List.getElem?_of_mem hq
        exact hmin j q (List.getElem?_eq_some_iff.mp hj).1 hj
