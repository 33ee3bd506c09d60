
/-! the makings, on the class's side alone: the result depends on what is held, not on the memory -/
def MdM (M : Ma) : Prop := ∃ n st E D, st < n ∧ n ≤ 1024 ∧ DOK n D ∧ Made n st E D (some M)
def MkR (P : Ma → Prop) (c : Mem → Option ((Int32 ⊕ Nat) × Mem)) (Ms : List Ma) (w : List Nat) (ls : Ls) : Prop :=
  ∃ oM : Option Ma, (∀ M, oM = some M → Ms.length < 24 ∧ VM M ∧ MdM M ∧ P M) ∧ ∀ m, InC m Ms w ls → CR (c m) m (rsC Ms.length oM) (Ms ++ oM.toList) w ls
/-- a making from a draft -/
theorem mk_of {c : Mem → Option ((Int32 ⊕ Nat) × Mem)} {Ms : List Ma} {w : List Nat} {ls : Ls} {N n st : Nat} {E : Nat → Bool} {D : ArL} (hN : 40000 < N) (hV : InV Ms w ls) (hst : st < n) (hn : n ≤ 1024) (hD : D.length ≤ 25600) (hok : DOK n D) (hu : Acy upr D) (hl : Acy lwr D)
    (hc : ∀ m, InC m Ms w ls → ∃ md, c m = calx (F_X7_keepDraft N md) (fun r m => some (.inl r, m)) ∧ Off 3 16 m md ∧ DR md n st E D) :
    ∃ oM : Option Ma, (if Ms.length < 24 then Made n st E D oM else oM = none) ∧ (∀ M, oM = some M → Ms.length < 24 ∧ VM M ∧ MdM M ∧ Made n st E D (some M)) ∧ ∀ m, InC m Ms w ls → CR (c m) m (rsC Ms.length oM) (Ms ++ oM.toList) w ls := by
  obtain ⟨o, ho⟩ := made_ex n st E D
  by_cases h24 : Ms.length < 24
  · refine ⟨o, by rw [if_pos h24]; exact ho, fun M hM => ?_, fun m hI => cr_make (by omega) hI hV.1 hst hn hD hok (by rw [if_pos h24]; exact ho) (hc m hI)⟩
    subst hM
    exact ⟨h24, ho.ok hst hok hu hl, ⟨n, st, E, D, hst, hn, hok, ho⟩, ho⟩
  · exact ⟨none, by rw [if_neg h24], fun M hM => (by cases hM), fun m hI => cr_make (by omega) hI hV.1 hst hn hD hok (by rw [if_neg h24]) (hc m hI)⟩
theorem mkr_of {c : Mem → Option ((Int32 ⊕ Nat) × Mem)} {Ms : List Ma} {w : List Nat} {ls : Ls} {N n st : Nat} {E : Nat → Bool} {D : ArL} (hN : 40000 < N) (hV : InV Ms w ls) (hst : st < n) (hn : n ≤ 1024) (hD : D.length ≤ 25600) (hok : DOK n D) (hu : Acy upr D) (hl : Acy lwr D)
    (hc : ∀ m, InC m Ms w ls → ∃ md, c m = calx (F_X7_keepDraft N md) (fun r m => some (.inl r, m)) ∧ Off 3 16 m md ∧ DR md n st E D) : MkR (fun _ => True) c Ms w ls := by
  obtain ⟨o, -, h1, h2⟩ := mk_of hN hV hst hn hD hok hu hl hc
  exact ⟨o, fun M hM => ⟨(h1 M hM).1, (h1 M hM).2.1, (h1 M hM).2.2.1, trivial⟩, h2⟩
/-- a making that is refused -/
theorem mkr_no {P : Ma → Prop} {c : Mem → Option ((Int32 ⊕ Nat) × Mem)} {Ms : List Ma} {w : List Nat} {ls : Ls} (hc : ∀ m, InC m Ms w ls → ∃ m1, c m = some (.inr 1, m1) ∧ InC m1 Ms w ls ∧ ∀ k, 64 ≤ k → k < 200 → m1 k = m k) : MkR P c Ms w ls := by
  refine ⟨none, fun M hM => (by cases hM), fun m hI => ?_⟩
  obtain ⟨m1, h1, h2, h3⟩ := hc m hI
  exact ⟨m1, h1, by rw [show Ms ++ (none : Option Ma).toList = Ms from List.append_nil _]; exact h2, h3⟩
theorem mkr_no' {P : Ma → Prop} {c : Mem → Option ((Int32 ⊕ Nat) × Mem)} {Ms : List Ma} {w : List Nat} {ls : Ls} (hc : ∀ m, InC m Ms w ls → c m = some (.inr 1, m)) : MkR P c Ms w ls :=
  mkr_no (fun m hI => ⟨m, hc m hI, hI, fun _ _ _ => rfl⟩)
theorem mk_pair {N u l c : Nat} (hN : 40000 < N) (hu : u < 9) (hl : l < 9) (hc : c < 101) (Ms : List Ma) (w : List Nat) (ls : Ls) (hV : InV Ms w ls) : MkR (fun _ => True) (fun m => F_X7_pair N m (nI u) (nI l) (nI c)) Ms w ls := by
  have haf := AF.all (n := 2) (ru := fun s => 1 - s) (rl := fun s => 1 - s) (D := [(pkA 0 u l 1, c)]) (by omega) (fun q hq => by
    rw [List.mem_singleton] at hq
    exact ⟨0, u, l, 1, c, hq, by omega, by omega, by omega, by omega, by omega, fun _ => by show 1 - 1 < 1 - 0; omega, fun _ => by show 1 - 1 < 1 - 0; omega⟩)
  refine mkr_of (n := 2) (st := 0) (E := fun x => false || decide (x = 1)) (D := [(pkA 0 u l 1, c)]) hN hV (by omega) (by omega) (by simp) haf.1 haf.2.1 haf.2.2 (fun m hC => ?_)
  obtain ⟨m2, a1, a2, a3⟩ := dr_begin' (N := N) (n := 2) (st := 0) (m := m) (by omega) (by omega)
  obtain ⟨m4, b1, b2, b3⟩ := dr_addArc (N := N) (s := 0) (u := u) (l := l) (t := 1) (c := c) a2 (by omega) (by show 0 < 25600; omega) (by omega) (by omega) (by omega) (by omega)
  obtain ⟨m6, c1, c2, c3⟩ := dr_addEnd (N := N) (s := 1) b2 (by omega) (by omega)
  refine ⟨m6, ?_, ((a3.tr b3).tr c3).wd (by omega) (by omega), c2⟩
  show F_X7_pair N m _ _ _ = _
  unfold F_X7_pair
  simp (disch := omega) only [zi_t, zi_f, bnd_t, zg_in, zx, nI_ltI, nI_leI, nI_eq, nI_add, pk_mul, pk_sub, mup_s, mup_c, mup_j, mrw_c, if_pos, if_neg, zm_1, zm_2, zm_3, zm_4, zm_5, zm_6, zm_7, zm_8, zm_9, zf_0, zf_1, zf_2, zf_3, zf_4, zf_5, zf_6, zf_7, zf_8, zf_9, zf_10, zf_14, zf_15, zf_16, zf_18, zf_19, zf_20, zf_24, zf_30, zf_31, zf_32, zf_33, zf_99, zf_100, zf_160, zf_200, zf_287, zf_288, zf_300, zf_1000, zf_1023, zf_1024, zf_1600, zf_3840, zf_25600, zf_36000, zf_1000000, zf_1000000000, zf_2000000000, zf_11560, za_1, za_2, za_4, za_5, za_6, za_7, za_8, za_9, za_10, za_11, za_12, za_14, za_15, za_22, za_23, za_25, za_26, za_27, za_28, za_29, za_30, za_31, za_32, za_33, za_34, za_35, za_41, za_42, za_43, za_44, za_45, za_46, za_47, za_48, za_49, za_61, za_62, za_63, za_64, za_65, za_70, loe_ok]
  rw [calv_t a1, calv_t b1, calv_t c1]
theorem mk_word {N : Nat} (hN : 40000 < N) (Ms : List Ma) (w : List Nat) (ls : Ls) (hV : InV Ms w ls) : MkR (fun _ => True) (fun m => F_X7_word N m) Ms w ls := by
  have v1 := hV.1
  have vw := hV.2.2.1
  have vl := hV.2.2.2.1
  have haf := AF.all (n := w.length + 1) (ru := fun _ => 0) (rl := fun _ => 0) (D := bA (wdF w) w.length) (by omega) (fun q hq => by
    obtain ⟨k, hk, rfl⟩ := bA_mem hq
    have := wd_lt vl k
    exact ⟨k, w.getD k 0, w.getD k 0, k + 1, 0, rfl, by omega, by omega, by omega, by omega, by omega, fun h => by omega, fun h => by omega⟩)
  refine mkr_of (n := w.length + 1) (st := 0) (E := fun x => false || decide (x = w.length)) (D := bA (wdF w) w.length) hN hV (by omega) (by omega) (by rw [bA_len]; omega) haf.1 haf.2.1 haf.2.2 (fun m hC => ?_)
  obtain ⟨m2, a1, a2, a3⟩ := dr_begin' (N := N) (n := w.length + 1) (st := 0) (m := m) (by omega) (by omega)
  have e1 := hC.2.2.1
  show ∃ md, F_X7_word N m = _ ∧ _
  unfold F_X7_word
  simp (disch := omega) only [zi_t, zi_f, bnd_t, zg_in, zx, nI_ltI, nI_leI, nI_eq, nI_add, pk_mul, pk_sub, mup_s, mup_c, mup_j, mrw_c, if_pos, if_neg, zm_1, zm_2, zm_3, zm_4, zm_5, zm_6, zm_7, zm_8, zm_9, zf_0, zf_1, zf_2, zf_3, zf_4, zf_5, zf_6, zf_7, zf_8, zf_9, zf_10, zf_14, zf_15, zf_16, zf_18, zf_19, zf_20, zf_24, zf_30, zf_31, zf_32, zf_33, zf_99, zf_100, zf_160, zf_200, zf_287, zf_288, zf_300, zf_1000, zf_1023, zf_1024, zf_1600, zf_3840, zf_25600, zf_36000, zf_1000000, zf_1000000000, zf_2000000000, zf_11560, za_1, za_2, za_4, za_5, za_6, za_7, za_8, za_9, za_10, za_11, za_12, za_14, za_15, za_22, za_23, za_25, za_26, za_27, za_28, za_29, za_30, za_31, za_32, za_33, za_34, za_35, za_41, za_42, za_43, za_44, za_45, za_46, za_47, za_48, za_49, za_61, za_62, za_63, za_64, za_65, za_70, e1]
  rw [calv_t a1]
  refine loopF (fun f (m : Mem) i => L_X7_word_16 N f m (nI i)) w.length (fun i m' => DR m' (w.length + 1) 0 (fun _ => false) (bA (wdF w) i) ∧ Off 3 7 m m') (fun o => ∃ md, o = calx (F_X7_keepDraft N md) (fun r m => some (.inl r, m)) ∧ Off 3 16 m md ∧ DR md (w.length + 1) 0 (fun x => false || decide (x = w.length)) (bA (wdF w) w.length)) ?_ ?_ N 0 m2 (Nat.zero_le _) ⟨a2, a3⟩ (by omega)
  · rintro f i m3 hi ⟨h1, h2⟩
    have e3 := (h2.at (k := 0) (by omega) 1).trans e1
    have e4 := (h2.at (k := 1) (by omega) i).trans (hC.2.2.2.1 i _ (wd_at hi))
    have hx := wd_lt vl i
    obtain ⟨m4, b1, b2, b3⟩ := dr_addArc (N := N) (s := i) (u := w.getD i 0) (l := w.getD i 0) (t := i + 1) (c := 0) h1 (by omega) (by rw [bA_len]; omega) (by omega) (by omega) (by omega) (by omega)
    refine Or.inl ⟨m4, ⟨by rw [bA_s]; exact b2, h2.tr b3⟩, ?_⟩
    show S_X7_word_16 N (L_X7_word_16 N f) m3 (nI i) = _
    unfold S_X7_word_16
    simp (disch := omega) only [zi_t, zi_f, bnd_t, zg_in, zx, nI_ltI, nI_leI, nI_eq, nI_add, pk_mul, pk_sub, mup_s, mup_c, mup_j, mrw_c, if_pos, if_neg, zm_1, zm_2, zm_3, zm_4, zm_5, zm_6, zm_7, zm_8, zm_9, zf_0, zf_1, zf_2, zf_3, zf_4, zf_5, zf_6, zf_7, zf_8, zf_9, zf_10, zf_14, zf_15, zf_16, zf_18, zf_19, zf_20, zf_24, zf_30, zf_31, zf_32, zf_33, zf_99, zf_100, zf_160, zf_200, zf_287, zf_288, zf_300, zf_1000, zf_1023, zf_1024, zf_1600, zf_3840, zf_25600, zf_36000, zf_1000000, zf_1000000000, zf_2000000000, zf_11560, za_1, za_2, za_4, za_5, za_6, za_7, za_8, za_9, za_10, za_11, za_12, za_14, za_15, za_22, za_23, za_25, za_26, za_27, za_28, za_29, za_30, za_31, za_32, za_33, za_34, za_35, za_41, za_42, za_43, za_44, za_45, za_46, za_47, za_48, za_49, za_61, za_62, za_63, za_64, za_65, za_70, e3, e4]
    rw [calv_t b1]
  · rintro f m3 ⟨h1, h2⟩
    have e3 := (h2.at (k := 0) (by omega) 1).trans e1
    obtain ⟨m6, c1, c2, c3⟩ := dr_addEnd (N := N) (s := w.length) h1 (by omega) (by omega)
    refine ⟨m6, ?_, (h2.tr c3).wd (by omega) (by omega), c2⟩
    show S_X7_word_16 N (L_X7_word_16 N f) m3 (nI w.length) = _
    unfold S_X7_word_16
    simp (disch := omega) only [zi_t, zi_f, bnd_t, zg_in, zx, nI_ltI, nI_leI, nI_eq, nI_add, pk_mul, pk_sub, mup_s, mup_c, mup_j, mrw_c, if_pos, if_neg, zm_1, zm_2, zm_3, zm_4, zm_5, zm_6, zm_7, zm_8, zm_9, zf_0, zf_1, zf_2, zf_3, zf_4, zf_5, zf_6, zf_7, zf_8, zf_9, zf_10, zf_14, zf_15, zf_16, zf_18, zf_19, zf_20, zf_24, zf_30, zf_31, zf_32, zf_33, zf_99, zf_100, zf_160, zf_200, zf_287, zf_288, zf_300, zf_1000, zf_1023, zf_1024, zf_1600, zf_3840, zf_25600, zf_36000, zf_1000000, zf_1000000000, zf_2000000000, zf_11560, za_1, za_2, za_4, za_5, za_6, za_7, za_8, za_9, za_10, za_11, za_12, za_14, za_15, za_22, za_23, za_25, za_26, za_27, za_28, za_29, za_30, za_31, za_32, za_33, za_34, za_35, za_41, za_42, za_43, za_44, za_45, za_46, za_47, za_48, za_49, za_61, za_62, za_63, za_64, za_65, za_70, e3]
    rw [calv_t c1]
theorem mk_any {N : Nat} (hN : 40000 < N) (Ms : List Ma) (w : List Nat) (ls : Ls) (hV : InV Ms w ls) : MkR (fun _ => True) (fun m => F_X7_any N m) Ms w ls := by
  have haf := AF.all (n := 2) (ru := fun _ => 0) (rl := fun _ => 0) (D := bA (fun x => (pkA 0 x x 1, 0)) 8) (by omega) (fun q hq => by
    obtain ⟨k, hk, rfl⟩ := bA_mem hq
    exact ⟨0, k, k, 1, 0, rfl, by omega, by omega, by omega, by omega, by omega, fun h => by omega, fun h => by omega⟩)
  refine mkr_of (n := 2) (st := 0) (E := fun x => false || decide (x = 1)) (D := bA (fun x => (pkA 0 x x 1, 0)) 8) hN hV (by omega) (by omega) (by rw [bA_len]; omega) haf.1 haf.2.1 haf.2.2 (fun m hC => ?_)
  obtain ⟨m2, a1, a2, a3⟩ := dr_begin' (N := N) (n := 2) (st := 0) (m := m) (by omega) (by omega)
  show ∃ md, F_X7_any N m = _ ∧ _
  unfold F_X7_any
  simp (disch := omega) only [zi_t, zi_f, bnd_t, zg_in, zx, nI_ltI, nI_leI, nI_eq, nI_add, pk_mul, pk_sub, mup_s, mup_c, mup_j, mrw_c, if_pos, if_neg, zm_1, zm_2, zm_3, zm_4, zm_5, zm_6, zm_7, zm_8, zm_9, zf_0, zf_1, zf_2, zf_3, zf_4, zf_5, zf_6, zf_7, zf_8, zf_9, zf_10, zf_14, zf_15, zf_16, zf_18, zf_19, zf_20, zf_24, zf_30, zf_31, zf_32, zf_33, zf_99, zf_100, zf_160, zf_200, zf_287, zf_288, zf_300, zf_1000, zf_1023, zf_1024, zf_1600, zf_3840, zf_25600, zf_36000, zf_1000000, zf_1000000000, zf_2000000000, zf_11560, za_1, za_2, za_4, za_5, za_6, za_7, za_8, za_9, za_10, za_11, za_12, za_14, za_15, za_22, za_23, za_25, za_26, za_27, za_28, za_29, za_30, za_31, za_32, za_33, za_34, za_35, za_41, za_42, za_43, za_44, za_45, za_46, za_47, za_48, za_49, za_61, za_62, za_63, za_64, za_65, za_70]
  rw [calv_t a1]
  refine loopF (fun f (m : Mem) i => L_X7_any_11 N f m (nI i)) 8 (fun i m' => DR m' 2 0 (fun _ => false) (bA (fun x => (pkA 0 x x 1, 0)) i) ∧ Off 3 7 m m') (fun o => ∃ md, o = calx (F_X7_keepDraft N md) (fun r m => some (.inl r, m)) ∧ Off 3 16 m md ∧ DR md 2 0 (fun x => false || decide (x = 1)) (bA (fun x => (pkA 0 x x 1, 0)) 8)) ?_ ?_ N 0 m2 (Nat.zero_le _) ⟨a2, a3⟩ (by omega)
  · rintro f i m3 hi ⟨h1, h2⟩
    obtain ⟨m4, b1, b2, b3⟩ := dr_addArc (N := N) (s := 0) (u := i) (l := i) (t := 1) (c := 0) h1 (by omega) (by rw [bA_len]; omega) (by omega) (by omega) (by omega) (by omega)
    refine Or.inl ⟨m4, ⟨by rw [bA_s]; exact b2, h2.tr b3⟩, ?_⟩
    show S_X7_any_11 N (L_X7_any_11 N f) m3 (nI i) = _
    unfold S_X7_any_11
    simp (disch := omega) only [zi_t, zi_f, bnd_t, zg_in, zx, nI_ltI, nI_leI, nI_eq, nI_add, pk_mul, pk_sub, mup_s, mup_c, mup_j, mrw_c, if_pos, if_neg, zm_1, zm_2, zm_3, zm_4, zm_5, zm_6, zm_7, zm_8, zm_9, zf_0, zf_1, zf_2, zf_3, zf_4, zf_5, zf_6, zf_7, zf_8, zf_9, zf_10, zf_14, zf_15, zf_16, zf_18, zf_19, zf_20, zf_24, zf_30, zf_31, zf_32, zf_33, zf_99, zf_100, zf_160, zf_200, zf_287, zf_288, zf_300, zf_1000, zf_1023, zf_1024, zf_1600, zf_3840, zf_25600, zf_36000, zf_1000000, zf_1000000000, zf_2000000000, zf_11560, za_1, za_2, za_4, za_5, za_6, za_7, za_8, za_9, za_10, za_11, za_12, za_14, za_15, za_22, za_23, za_25, za_26, za_27, za_28, za_29, za_30, za_31, za_32, za_33, za_34, za_35, za_41, za_42, za_43, za_44, za_45, za_46, za_47, za_48, za_49, za_61, za_62, za_63, za_64, za_65, za_70]
    rw [calv_t b1]
  · rintro f m3 ⟨h1, h2⟩
    obtain ⟨m6, c1, c2, c3⟩ := dr_addEnd (N := N) (s := 1) h1 (by omega) (by omega)
    refine ⟨m6, ?_, (h2.tr c3).wd (by omega) (by omega), c2⟩
    show S_X7_any_11 N (L_X7_any_11 N f) m3 (nI 8) = _
    unfold S_X7_any_11
    simp (disch := omega) only [zi_t, zi_f, bnd_t, zg_in, zx, nI_ltI, nI_leI, nI_eq, nI_add, pk_mul, pk_sub, mup_s, mup_c, mup_j, mrw_c, if_pos, if_neg, zm_1, zm_2, zm_3, zm_4, zm_5, zm_6, zm_7, zm_8, zm_9, zf_0, zf_1, zf_2, zf_3, zf_4, zf_5, zf_6, zf_7, zf_8, zf_9, zf_10, zf_14, zf_15, zf_16, zf_18, zf_19, zf_20, zf_24, zf_30, zf_31, zf_32, zf_33, zf_99, zf_100, zf_160, zf_200, zf_287, zf_288, zf_300, zf_1000, zf_1023, zf_1024, zf_1600, zf_3840, zf_25600, zf_36000, zf_1000000, zf_1000000000, zf_2000000000, zf_11560, za_1, za_2, za_4, za_5, za_6, za_7, za_8, za_9, za_10, za_11, za_12, za_14, za_15, za_22, za_23, za_25, za_26, za_27, za_28, za_29, za_30, za_31, za_32, za_33, za_34, za_35, za_41, za_42, za_43, za_44, za_45, za_46, za_47, za_48, za_49, za_61, za_62, za_63, za_64, za_65, za_70]
    rw [calv_t c1]
theorem mk_join {N i j : Nat} (hN : 40000 < N) (Ms : List Ma) (w : List Nat) (ls : Ls) (hV : InV Ms w ls) (hi : i < Ms.length) (hj : j < Ms.length) : MkR (fun _ => True) (fun m => F_X7_join N m (nI i) (nI j)) Ms w ls := by
  have v1 := hV.1
  obtain ⟨nA, fA, LA, gA⟩ := ma_get hi
  obtain ⟨nB, fB, LB, gB⟩ := ma_get hj
  have vA := hV.2.1 _ (List.mem_of_getElem? gA)
  have vB := hV.2.1 _ (List.mem_of_getElem? gB)
  have a1 : 1 ≤ nA := vA.1
  have a2 : nA ≤ 32 := vA.2.1
  have b2 : nB ≤ 32 := vB.2.1
  obtain ⟨k1, k2, k3⟩ := jn_af vA vB
  have hlen := jn_len (nA := nA) (fA := fA) (LA := LA) (LB := LB) vA.2.2.1 vB.2.2.1 a2
  exact mkr_of (n := nA + nB) (st := 0) hN hV (by omega) (by omega) (by omega) k1 k2 k3 (fun m hC => cl_join hN vA vB v1 hi hj hC (hC.2.1 i _ gA) (hC.2.1 j _ gB))
theorem mk_unite {N i j : Nat} (hN : 40000 < N) (Ms : List Ma) (w : List Nat) (ls : Ls) (hV : InV Ms w ls) (hi : i < Ms.length) (hj : j < Ms.length) : MkR (fun _ => True) (fun m => F_X7_unite N m (nI i) (nI j)) Ms w ls := by
  have v1 := hV.1
  obtain ⟨nA, fA, LA, gA⟩ := ma_get hi
  obtain ⟨nB, fB, LB, gB⟩ := ma_get hj
  have vA := hV.2.1 _ (List.mem_of_getElem? gA)
  have vB := hV.2.1 _ (List.mem_of_getElem? gB)
  have a2 : nA ≤ 32 := vA.2.1
  have b2 : nB ≤ 32 := vB.2.1
  obtain ⟨k1, k2, k3⟩ := un_af vA vB
  have hlen := un_len (nA := nA) (nB := nB) (LA := LA) (LB := LB) vA.2.2.1 vB.2.2.1
  exact mkr_of (n := nA + nB + 1) (st := nA + nB) hN hV (by omega) (by omega) (by omega) k1 k2 k3 (fun m hC => cl_unite hN vA vB v1 hi hj hC (hC.2.1 i _ gA) (hC.2.1 j _ gB))
theorem mk_repeat {N i : Nat} (hN : 40000 < N) (Ms : List Ma) (w : List Nat) (ls : Ls) (hV : InV Ms w ls) (hi : i < Ms.length) : MkR (fun _ => True) (fun m => F_X7_repeat N m (nI i)) Ms w ls := by
  have v1 := hV.1
  obtain ⟨n, f, L, gA⟩ := ma_get hi
  have vA := hV.2.1 _ (List.mem_of_getElem? gA)
  have a1 : 1 ≤ n := vA.1
  have a2 : n ≤ 32 := vA.2.1
  have a3 : L.length ≤ 160 := vA.2.2.1
  have a5 : DOK n L := vA.2.2.2.2.1
  have ex : ∀ u, ∃ v, Clo (selG u) L (nI 1) v := fun u => ⟨_, clo_of (a5.l32 a2) (itA_done a5 a2 (one_lt a1) cnt_1 (Nat.le_refl _))⟩
  obtain ⟨vu, hu⟩ := ex true
  obtain ⟨vl, hl⟩ := ex false
  have cU : ∀ m, InC m Ms w ls → F_X3_relatesEmpty N m (200 + 4 * i) (nI 1) = some (bI (decide (vu &&& eB f n ≠ nI 0)), m) := by
    intro m hC
    obtain ⟨v, g1, g2⟩ := cl_relates (u := true) hN (by omega) (hC.2.1 i _ gA) a5 a1 a2 a3
    rw [hu.uq g1]; exact g2
  have cL : ∀ m, InC m Ms w ls → F_X3_relatesEmpty N m (200 + 4 * i) (nI 0) = some (bI (decide (vl &&& eB f n ≠ nI 0)), m) := by
    intro m hC
    obtain ⟨v, g1, g2⟩ := cl_relates (u := false) hN (by omega) (hC.2.1 i _ gA) a5 a1 a2 a3
    rw [hl.uq g1]; exact g2
  by_cases zu : vu &&& eB f n = nI 0
  · by_cases zl : vl &&& eB f n = nI 0
    · rw [decide_eq_false (by simp [zu]), bI_f] at cU
      rw [decide_eq_false (by simp [zl]), bI_f] at cL
      obtain ⟨k1, k2, k3⟩ := rp_af vA hu hl zu zl
      have hlen := rp_len (f := f) a3 a2
      refine mkr_of (n := n + 1) (st := n) (E := fun x => false || decide (x = n)) hN hV (by omega) (by omega) (by omega) k1 k2 k3 (fun m hC => ?_)
      have mA : MC m (200 + 4 * i) n (eB f n) L := hC.2.1 i _ gA
      obtain ⟨m2, c1, c2, c3⟩ := dr_begin' (N := N) (n := n + 1) (st := n) (m := m) (by omega) (by omega)
      have f2 : Off 3 16 m m2 := c3.wd (by omega) (by omega)
      obtain ⟨m4, d1, d2, d3⟩ := dr_addArcsOf (N := N) (b := 0) (by omega) c2 (by omega) (by omega) (mA.off (by omega) f2).2.2 a5 (by show 0 + n ≤ _; omega) a3 (by show 0 + _ ≤ _; omega)
      have f4 : Off 3 16 m m4 := f2.tr (d3.wd (by omega) (by omega))
      obtain ⟨m6, e1, e2, e3⟩ := dr_addArc (N := N) (s := n) (u := 8) (l := 8) (t := 0) (c := 0) d2 (by omega) (by rw [List.length_append, shA_len]; show 0 + _ < _; omega) (by omega) (by omega) (by omega) (by omega)
      have f6 : Off 3 16 m m6 := f4.tr (e3.wd (by omega) (by omega))
      have mA6 := mA.off (by omega) f6
      obtain ⟨m8, g1, g2, g3⟩ := dr_lead (N := N) (b := 0) (t := n) (by omega) e2 (by omega) (by omega) mA6.1 mA6.2.1 a2 (by omega) (by omega) (by rw [List.length_append, List.length_append, shA_len]; show 0 + _ + 1 + _ ≤ _; omega)
      have f8 : Off 3 16 m m8 := f6.tr (g3.wd (by omega) (by omega))
      obtain ⟨m10, p1, p2, p3⟩ := dr_addEnd (N := N) (s := n) g2 (by omega) (by omega)
      refine ⟨m10, ?_, f8.tr (p3.wd (by omega) (by omega)), p2⟩
      show F_X7_repeat N m (nI i) = _
      have xA := mA.1
      unfold F_X7_repeat
      rw [calx_t (need_ok hC v1 hi)]
      simp (disch := omega) only [zi_t, zi_f, bnd_t, zg_in, zx, nI_ltI, nI_leI, nI_eq, nI_add, pk_mul, pk_sub, mup_s, mup_c, mup_j, mrw_c, if_pos, if_neg, zm_1, zm_2, zm_3, zm_4, zm_5, zm_6, zm_7, zm_8, zm_9, zf_0, zf_1, zf_2, zf_3, zf_4, zf_5, zf_6, zf_7, zf_8, zf_9, zf_10, zf_14, zf_15, zf_16, zf_18, zf_19, zf_20, zf_24, zf_30, zf_31, zf_32, zf_33, zf_99, zf_100, zf_160, zf_200, zf_287, zf_288, zf_300, zf_1000, zf_1023, zf_1024, zf_1600, zf_3840, zf_25600, zf_36000, zf_1000000, zf_1000000000, zf_2000000000, zf_11560, za_1, za_2, za_4, za_5, za_6, za_7, za_8, za_9, za_10, za_11, za_12, za_14, za_15, za_22, za_23, za_25, za_26, za_27, za_28, za_29, za_30, za_31, za_32, za_33, za_34, za_35, za_41, za_42, za_43, za_44, za_45, za_46, za_47, za_48, za_49, za_61, za_62, za_63, za_64, za_65, za_70]
      rw [cal_t (cU m hC)]
      simp (disch := omega) only [zi_t, zi_f, bnd_t, zg_in, zx, nI_ltI, nI_leI, nI_eq, nI_add, pk_mul, pk_sub, mup_s, mup_c, mup_j, mrw_c, if_pos, if_neg, zm_1, zm_2, zm_3, zm_4, zm_5, zm_6, zm_7, zm_8, zm_9, zf_0, zf_1, zf_2, zf_3, zf_4, zf_5, zf_6, zf_7, zf_8, zf_9, zf_10, zf_14, zf_15, zf_16, zf_18, zf_19, zf_20, zf_24, zf_30, zf_31, zf_32, zf_33, zf_99, zf_100, zf_160, zf_200, zf_287, zf_288, zf_300, zf_1000, zf_1023, zf_1024, zf_1600, zf_3840, zf_25600, zf_36000, zf_1000000, zf_1000000000, zf_2000000000, zf_11560, za_1, za_2, za_4, za_5, za_6, za_7, za_8, za_9, za_10, za_11, za_12, za_14, za_15, za_22, za_23, za_25, za_26, za_27, za_28, za_29, za_30, za_31, za_32, za_33, za_34, za_35, za_41, za_42, za_43, za_44, za_45, za_46, za_47, za_48, za_49, za_61, za_62, za_63, za_64, za_65, za_70]
      rw [cal_t (cL m hC)]
      simp (disch := omega) only [zi_t, zi_f, bnd_t, zg_in, zx, nI_ltI, nI_leI, nI_eq, nI_add, pk_mul, pk_sub, mup_s, mup_c, mup_j, mrw_c, if_pos, if_neg, zm_1, zm_2, zm_3, zm_4, zm_5, zm_6, zm_7, zm_8, zm_9, zf_0, zf_1, zf_2, zf_3, zf_4, zf_5, zf_6, zf_7, zf_8, zf_9, zf_10, zf_14, zf_15, zf_16, zf_18, zf_19, zf_20, zf_24, zf_30, zf_31, zf_32, zf_33, zf_99, zf_100, zf_160, zf_200, zf_287, zf_288, zf_300, zf_1000, zf_1023, zf_1024, zf_1600, zf_3840, zf_25600, zf_36000, zf_1000000, zf_1000000000, zf_2000000000, zf_11560, za_1, za_2, za_4, za_5, za_6, za_7, za_8, za_9, za_10, za_11, za_12, za_14, za_15, za_22, za_23, za_25, za_26, za_27, za_28, za_29, za_30, za_31, za_32, za_33, za_34, za_35, za_41, za_42, za_43, za_44, za_45, za_46, za_47, za_48, za_49, za_61, za_62, za_63, za_64, za_65, za_70, xA]
      rw [calv_t c1, calv_t d1, calv_t e1, calv_t g1, calv_t p1]
    · rw [decide_eq_false (by simp [zu]), bI_f] at cU
      rw [decide_eq_true zl, bI_t] at cL
      refine mkr_no' (fun m hC => ?_)
      show F_X7_repeat N m _ = _
      unfold F_X7_repeat
      rw [calx_t (need_ok hC v1 hi)]
      simp (disch := omega) only [zi_t, zi_f, bnd_t, zg_in, zx, nI_ltI, nI_leI, nI_eq, nI_add, pk_mul, pk_sub, mup_s, mup_c, mup_j, mrw_c, if_pos, if_neg, zm_1, zm_2, zm_3, zm_4, zm_5, zm_6, zm_7, zm_8, zm_9, zf_0, zf_1, zf_2, zf_3, zf_4, zf_5, zf_6, zf_7, zf_8, zf_9, zf_10, zf_14, zf_15, zf_16, zf_18, zf_19, zf_20, zf_24, zf_30, zf_31, zf_32, zf_33, zf_99, zf_100, zf_160, zf_200, zf_287, zf_288, zf_300, zf_1000, zf_1023, zf_1024, zf_1600, zf_3840, zf_25600, zf_36000, zf_1000000, zf_1000000000, zf_2000000000, zf_11560, za_1, za_2, za_4, za_5, za_6, za_7, za_8, za_9, za_10, za_11, za_12, za_14, za_15, za_22, za_23, za_25, za_26, za_27, za_28, za_29, za_30, za_31, za_32, za_33, za_34, za_35, za_41, za_42, za_43, za_44, za_45, za_46, za_47, za_48, za_49, za_61, za_62, za_63, za_64, za_65, za_70]
      rw [cal_t (cU m hC)]
      simp (disch := omega) only [zi_t, zi_f, bnd_t, zg_in, zx, nI_ltI, nI_leI, nI_eq, nI_add, pk_mul, pk_sub, mup_s, mup_c, mup_j, mrw_c, if_pos, if_neg, zm_1, zm_2, zm_3, zm_4, zm_5, zm_6, zm_7, zm_8, zm_9, zf_0, zf_1, zf_2, zf_3, zf_4, zf_5, zf_6, zf_7, zf_8, zf_9, zf_10, zf_14, zf_15, zf_16, zf_18, zf_19, zf_20, zf_24, zf_30, zf_31, zf_32, zf_33, zf_99, zf_100, zf_160, zf_200, zf_287, zf_288, zf_300, zf_1000, zf_1023, zf_1024, zf_1600, zf_3840, zf_25600, zf_36000, zf_1000000, zf_1000000000, zf_2000000000, zf_11560, za_1, za_2, za_4, za_5, za_6, za_7, za_8, za_9, za_10, za_11, za_12, za_14, za_15, za_22, za_23, za_25, za_26, za_27, za_28, za_29, za_30, za_31, za_32, za_33, za_34, za_35, za_41, za_42, za_43, za_44, za_45, za_46, za_47, za_48, za_49, za_61, za_62, za_63, za_64, za_65, za_70]
      rw [cal_t (cL m hC)]
      unfold B_X7_repeat_28
      simp (disch := omega) only [zi_t, zi_f, bnd_t, zg_in, zx, nI_ltI, nI_leI, nI_eq, nI_add, pk_mul, pk_sub, mup_s, mup_c, mup_j, mrw_c, if_pos, if_neg, zm_1, zm_2, zm_3, zm_4, zm_5, zm_6, zm_7, zm_8, zm_9, zf_0, zf_1, zf_2, zf_3, zf_4, zf_5, zf_6, zf_7, zf_8, zf_9, zf_10, zf_14, zf_15, zf_16, zf_18, zf_19, zf_20, zf_24, zf_30, zf_31, zf_32, zf_33, zf_99, zf_100, zf_160, zf_200, zf_287, zf_288, zf_300, zf_1000, zf_1023, zf_1024, zf_1600, zf_3840, zf_25600, zf_36000, zf_1000000, zf_1000000000, zf_2000000000, zf_11560, za_1, za_2, za_4, za_5, za_6, za_7, za_8, za_9, za_10, za_11, za_12, za_14, za_15, za_22, za_23, za_25, za_26, za_27, za_28, za_29, za_30, za_31, za_32, za_33, za_34, za_35, za_41, za_42, za_43, za_44, za_45, za_46, za_47, za_48, za_49, za_61, za_62, za_63, za_64, za_65, za_70]
  · rw [decide_eq_true zu, bI_t] at cU
    refine mkr_no' (fun m hC => ?_)
    show F_X7_repeat N m _ = _
    unfold F_X7_repeat
    rw [calx_t (need_ok hC v1 hi)]
    simp (disch := omega) only [zi_t, zi_f, bnd_t, zg_in, zx, nI_ltI, nI_leI, nI_eq, nI_add, pk_mul, pk_sub, mup_s, mup_c, mup_j, mrw_c, if_pos, if_neg, zm_1, zm_2, zm_3, zm_4, zm_5, zm_6, zm_7, zm_8, zm_9, zf_0, zf_1, zf_2, zf_3, zf_4, zf_5, zf_6, zf_7, zf_8, zf_9, zf_10, zf_14, zf_15, zf_16, zf_18, zf_19, zf_20, zf_24, zf_30, zf_31, zf_32, zf_33, zf_99, zf_100, zf_160, zf_200, zf_287, zf_288, zf_300, zf_1000, zf_1023, zf_1024, zf_1600, zf_3840, zf_25600, zf_36000, zf_1000000, zf_1000000000, zf_2000000000, zf_11560, za_1, za_2, za_4, za_5, za_6, za_7, za_8, za_9, za_10, za_11, za_12, za_14, za_15, za_22, za_23, za_25, za_26, za_27, za_28, za_29, za_30, za_31, za_32, za_33, za_34, za_35, za_41, za_42, za_43, za_44, za_45, za_46, za_47, za_48, za_49, za_61, za_62, za_63, za_64, za_65, za_70]
    rw [cal_t (cU m hC)]
    unfold B_X7_repeat_28
    simp (disch := omega) only [zi_t, zi_f, bnd_t, zg_in, zx, nI_ltI, nI_leI, nI_eq, nI_add, pk_mul, pk_sub, mup_s, mup_c, mup_j, mrw_c, if_pos, if_neg, zm_1, zm_2, zm_3, zm_4, zm_5, zm_6, zm_7, zm_8, zm_9, zf_0, zf_1, zf_2, zf_3, zf_4, zf_5, zf_6, zf_7, zf_8, zf_9, zf_10, zf_14, zf_15, zf_16, zf_18, zf_19, zf_20, zf_24, zf_30, zf_31, zf_32, zf_33, zf_99, zf_100, zf_160, zf_200, zf_287, zf_288, zf_300, zf_1000, zf_1023, zf_1024, zf_1600, zf_3840, zf_25600, zf_36000, zf_1000000, zf_1000000000, zf_2000000000, zf_11560, za_1, za_2, za_4, za_5, za_6, za_7, za_8, za_9, za_10, za_11, za_12, za_14, za_15, za_22, za_23, za_25, za_26, za_27, za_28, za_29, za_30, za_31, za_32, za_33, za_34, za_35, za_41, za_42, za_43, za_44, za_45, za_46, za_47, za_48, za_49, za_61, za_62, za_63, za_64, za_65, za_70]
