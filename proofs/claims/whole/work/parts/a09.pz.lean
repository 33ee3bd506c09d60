theorem acy_bd {g : Nat → Nat} {n : Nat} {L : ArL} (h : Acy g L) (hok : DOK n L) : ∃ r : Nat → Nat, (∀ s, r s ≤ n) ∧ (∀ s, s < n → r s < n) ∧ ∀ q, q ∈ L → g q.1 = 8 → r (too q.1) < r (fr q.1) := by
  obtain ⟨r, hr⟩ := h
  refine ⟨fun s => cnt (fun t => decide (r t < r s)) n, fun s => cnt_le _ n, fun s hs => ?_, fun q hq h8 => ?_⟩
  · have h1 := cnt_lt (a := fun t => decide (r t < r s)) (b := fun _ => true) (fun _ _ => rfl) (x := s) rfl (by simp) n hs
    have h2 := cnt_le (fun _ => true) n
    show cnt (fun t => decide (r t < r s)) n < n
    omega
  · have h1 := hr q hq h8
    have h2 : too q.1 < n := (hok q hq).2.2.1
    exact cnt_lt (a := fun t => decide (r t < r (too q.1))) (b := fun t => decide (r t < r (fr q.1))) (fun s hs => by
      have hs : decide (r s < r (too q.1)) = true := hs
      rw [decide_eq_true_eq] at hs
      show decide (r s < r (fr q.1)) = true
      rw [decide_eq_true_eq]
      omega) (x := too q.1) (by
      show decide (r (too q.1) < r (fr q.1)) = true
      rw [decide_eq_true_eq]; exact h1) (by simp) n h2
theorem shA_af {n k b : Nat} {ru rl : Nat → Nat} {L : ArL} (hok : DOK k L) (hb : b + k ≤ n) (hu : ∀ q, q ∈ L → upr q.1 = 8 → ru (b + too q.1) < ru (b + fr q.1)) (hl : ∀ q, q ∈ L → lwr q.1 = 8 → rl (b + too q.1) < rl (b + fr q.1)) : ∀ q, q ∈ shA b L → AF n ru rl q := by
  intro q hq
  obtain ⟨a, ha, rfl⟩ := List.mem_map.mp hq
  obtain ⟨h1, h2, h3, h4, h5, h6⟩ := hok a ha
  exact ⟨b + fr a.1, upr a.1, lwr a.1, b + too a.1, a.2, rfl, by omega, h4, h5, by omega, h6, hu a ha, hl a ha⟩
theorem ldA_af {n k b t : Nat} {ru rl : Nat → Nat} {f : Nat → Bool} (hb : b + k ≤ n) (ht : t < n) (h : ∀ s, s < k → f s = true → ru t < ru (b + s) ∧ rl t < rl (b + s)) : ∀ q, q ∈ ldA f b t k → AF n ru rl q := by
  intro q hq
  obtain ⟨s, hs, rfl⟩ := List.mem_map.mp hq
  have h1 := List.mem_filter.mp hs
  have h2 := List.mem_range.mp h1.1
  have h3 := h s h2 h1.2
  exact ⟨b + s, 8, 8, t, 0, rfl, by omega, by omega, by omega, ht, by omega, fun _ => h3.1, fun _ => h3.2⟩
theorem shA_len (b : Nat) (L : ArL) : (shA b L).length = L.length := List.length_map ..
theorem MC.off {m m' : Mem} {a n : Nat} {e : Int32} {L : ArL} (h : MC m a n e L) (ha : 200 ≤ a) (ho : Off 3 16 m m') : MC m' a n e L := h.cg (ho a (by omega)) (ho _ (by omega)) (ho _ (by omega)) (ho _ (by omega))
theorem MM.fx {m m' : Mem} {i n lo hi : Nat} {J : List Nat} {e : Int32} {L : ArL} (h : MM m i n e L) (hf : Fx lo hi J m m') (h1 : 80 ≤ lo) : MM m' i n e L := h.cg (fun k a b => by rw [hf.1 k (by omega) (by omega)]) (fun k j a b _ => by rw [hf.1 k (by omega) (by omega)])
theorem shE_up {f : Nat → Bool} {b i : Nat} : (fun x => if x = b + i then f i else shE (fun _ => false) f b i x) = shE (fun _ => false) f b (i + 1) := by
  rw [shE_s]
  funext x
  by_cases hx : x = b + i
  · rw [if_pos hx]
    cases h : f i with
    | true =>
      rw [if_pos rfl]
      show true = (shE (fun _ => false) f b i x || decide (x = b + i))
      rw [decide_eq_true hx, Bool.or_true]
    | false =>
      rw [if_neg (by simp), hx]
      unfold shE
      rw [decide_eq_false (by omega : ¬ b + i < b + i)]; simp
  · rw [if_neg hx]
    split
    · show _ = (shE (fun _ => false) f b i x || decide (x = b + i))
      rw [decide_eq_false hx, Bool.or_false]
    · rfl
theorem ma_get {Ms : List Ma} {i : Nat} (hi : i < Ms.length) : ∃ n f L, Ms[i]? = some (n, f, L) := ⟨(Ms[i]).1, (Ms[i]).2.1, (Ms[i]).2.2, List.getElem?_eq_getElem hi⟩
/-! join -/
abbrev jnD (nA : Nat) (fA : Nat → Bool) (LA LB : ArL) : ArL := (([] ++ shA 0 LA) ++ shA nA LB) ++ ldA fA 0 nA nA
theorem jn_af {nA nB : Nat} {fA fB : Nat → Bool} {LA LB : ArL} (hA : VM (nA, fA, LA)) (hB : VM (nB, fB, LB)) : DOK (nA + nB) (jnD nA fA LA LB) ∧ Acy upr (jnD nA fA LA LB) ∧ Acy lwr (jnD nA fA LA LB) := by
  obtain ⟨a1, a2, a3, a4, a5, a6, a7⟩ := hA
  obtain ⟨b1, b2, b3, b4, b5, b6, b7⟩ := hB
  have a1 : 1 ≤ nA := a1
  have a2 : nA ≤ 32 := a2
  have b1 : 1 ≤ nB := b1
  have b2 : nB ≤ 32 := b2
  have a5 : DOK nA LA := a5
  have b5 : DOK nB LB := b5
  obtain ⟨ru, ru1, _, ru3⟩ := acy_bd a6 a5
  obtain ⟨rl, rl1, _, rl3⟩ := acy_bd a7 a5
  obtain ⟨su, su1, _, su3⟩ := acy_bd b6 b5
  obtain ⟨sl, sl1, _, sl3⟩ := acy_bd b7 b5
  refine AF.all (n := nA + nB) (ru := fun s => if s < nA then ru s + 33 else su (s - nA)) (rl := fun s => if s < nA then rl s + 33 else sl (s - nA)) (by omega) ?_
  intro q hq
  rcases List.mem_append.mp hq with hq | hq
  · rcases List.mem_append.mp hq with hq | hq
    · rw [List.nil_append] at hq
      refine shA_af (n := nA + nB) a5 (by omega) ?_ ?_ q hq
      · intro x hx h8
        have h1 := (a5 x hx).2.1
        have h2 := (a5 x hx).2.2.1
        have := ru3 x hx h8
        show (if 0 + too x.1 < nA then _ else _) < (if 0 + fr x.1 < nA then _ else _)
        rw [if_pos (by omega), if_pos (by omega), Nat.zero_add, Nat.zero_add]
        omega
      · intro x hx h8
        have h1 := (a5 x hx).2.1
        have h2 := (a5 x hx).2.2.1
        have := rl3 x hx h8
        show (if 0 + too x.1 < nA then _ else _) < (if 0 + fr x.1 < nA then _ else _)
        rw [if_pos (by omega), if_pos (by omega), Nat.zero_add, Nat.zero_add]
        omega
    · refine shA_af (n := nA + nB) b5 (by omega) ?_ ?_ q hq
      · intro x hx h8
        have := su3 x hx h8
        show (if nA + too x.1 < nA then _ else _) < (if nA + fr x.1 < nA then _ else _)
        rw [if_neg (by omega), if_neg (by omega), Nat.add_sub_cancel_left, Nat.add_sub_cancel_left]
        exact this
      · intro x hx h8
        have := sl3 x hx h8
        show (if nA + too x.1 < nA then _ else _) < (if nA + fr x.1 < nA then _ else _)
        rw [if_neg (by omega), if_neg (by omega), Nat.add_sub_cancel_left, Nat.add_sub_cancel_left]
        exact this
  · refine ldA_af (n := nA + nB) (by omega) (by omega) ?_ q hq
    intro s hs _
    have h1 := su1 (nA - nA)
    have h2 := sl1 (nA - nA)
    constructor
    · show (if nA < nA then _ else _) < (if 0 + s < nA then _ else _)
      rw [if_neg (by omega), if_pos (by omega)]
      omega
    · show (if nA < nA then _ else _) < (if 0 + s < nA then _ else _)
      rw [if_neg (by omega), if_pos (by omega)]
      omega
theorem jn_len {nA : Nat} {fA : Nat → Bool} {LA LB : ArL} (h1 : LA.length ≤ 160) (h2 : LB.length ≤ 160) (h3 : nA ≤ 32) : (jnD nA fA LA LB).length ≤ 352 := by
  have := ldA_len fA 0 nA nA
  rw [List.length_append, List.length_append, List.length_append, shA_len, shA_len]
  show 0 + _ + _ + _ ≤ 352
  omega
theorem mw_joins {N i j nA nB : Nat} {fA fB : Nat → Bool} {LA LB : ArL} {m : Mem} (hN : 40000 < N) (hA : VM (nA, fA, LA)) (hB : VM (nB, fB, LB)) (hi : i < 24) (hj : j < 24) (mA : MM m i nA (eB fA nA) LA) (mB : MM m j nB (eB fB nB) LB) :
    ∃ mw, MW mw (shE (fun _ => false) fB nA nB) (jnD nA fA LA LB) ∧ Fx 80 83 [14] m mw ∧ F_X8_joins N m (nI i) (nI j) = tW N mw (nI 0) := by
  obtain ⟨a1, a2, a3, a4, a5, a6, a7⟩ := hA
  obtain ⟨b1, b2, b3, b4, b5, b6, b7⟩ := hB
  have a2 : nA ≤ 32 := a2
  have b2 : nB ≤ 32 := b2
  have a3 : LA.length ≤ 160 := a3
  have b3 : LB.length ≤ 160 := b3
  obtain ⟨m2, c1, c2, c3⟩ := mw_begins (N := N) (m := m) (by omega)
  obtain ⟨m4, d1, d2, d3⟩ := mw_puts (b := 0) hN c2 (mA.fx c3 (by omega)) hi a5 (by show 0 + nA ≤ 1024; omega) a3 (by show 0 + LA.length ≤ 36000; omega)
  have f4 : Fx 80 83 [14] m m4 := (c3.wd (by omega) (by omega) (by simp)).tr (d3.wd (by omega) (by omega) (by simp))
  obtain ⟨m7, e1, e2, e3⟩ := mw_puts (b := nA) hN d2 (mB.fx f4 (by omega)) hj b5 (by show nA + nB ≤ 1024; omega) b3 (by rw [List.length_append, shA_len]; show 0 + _ + _ ≤ 36000; omega)
  have f7 : Fx 80 83 [14] m m7 := f4.tr (e3.wd (by omega) (by omega) (by simp))
  have r4 : m4 72 i = nI nA := (mA.fx f4 (by omega)).1
  unfold F_X8_joins
  rw [calv_t c1, show (0 : Int32) = nI 0 from rfl, calv_t d1]
  simp (disch := omega) only [zi_t, zi_f, bnd_t, zg_in, zx, nI_ltI, nI_leI, nI_eq, nI_add, pk_mul, pk_sub, mup_s, mup_c, mup_j, mrw_c, if_pos, if_neg, zm_1, zm_2, zm_3, zm_4, zm_5, zm_6, zm_7, zm_8, zm_9, zf_0, zf_1, zf_2, zf_3, zf_4, zf_5, zf_6, zf_7, zf_8, zf_9, zf_10, zf_14, zf_15, zf_16, zf_18, zf_19, zf_20, zf_24, zf_30, zf_31, zf_32, zf_33, zf_99, zf_100, zf_160, zf_200, zf_287, zf_288, zf_300, zf_1000, zf_1023, zf_1024, zf_1600, zf_3840, zf_25600, zf_36000, zf_1000000, zf_1000000000, zf_2000000000, zf_11560, za_1, za_2, za_4, za_5, za_6, za_7, za_8, za_9, za_10, za_11, za_12, za_14, za_15, za_22, za_23, za_25, za_26, za_27, za_28, za_29, za_30, za_31, za_32, za_33, za_34, za_35, za_41, za_42, za_43, za_44, za_45, za_46, za_47, za_48, za_49, za_61, za_62, za_63, za_64, za_65, za_71, za_72, za_73, za_74, za_75, za_76, za_77, za_78, za_79, za_80, za_81, za_82, za_83, za_84, za_85, za_86, za_87, za_88, za_89, za_90, za_91, za_92, za_93, za_94, za_95, za_96, za_97, za_98, za_99, za_100, za_101, za_102, za_103, za_104, za_105, za_106, za_107, za_108, r4]
  rw [calv_t e1]
  have hlen : ∀ k, k ≤ nA → (([] ++ shA 0 LA) ++ shA nA LB ++ ldA fA 0 nA k : ArL).length ≤ 352 := by
    intro k hk
    have := ldA_len fA 0 nA k
    rw [List.length_append, List.length_append, List.length_append, shA_len, shA_len]
    show 0 + _ + _ + _ ≤ 352
    omega
  refine loopF (fun f (m : Mem) k => L_X8_joins_23 N f m (nI i) (nI j) (nI k)) nA (fun k m' => MW m' (fun _ => false) (([] ++ shA 0 LA) ++ shA nA LB ++ ldA fA 0 nA k) ∧ Fx 80 83 [14] m m') (fun o => ∃ mw, MW mw (shE (fun _ => false) fB nA nB) (jnD nA fA LA LB) ∧ Fx 80 83 [14] m mw ∧ o = tW N mw (nI 0)) ?_ ?_ N 0 m7 (Nat.zero_le _) ⟨by show MW m7 _ (_ ++ []); rw [List.append_nil]; exact e2, f7⟩ (by omega)
  · rintro f k m3 hk ⟨h1, h2⟩
    have mA3 := mA.fx h2 (by omega)
    have x1 := mA3.1
    have x2 := mw_isEndOf (N := N) mA3.2.1 hi a2 hk
    cases hf : fA k with
    | true =>
      rw [hf] at x2
      obtain ⟨m5, g1, g2, g3⟩ := mw_adds (N := N) (s := 0 + k) (u := 8) (l := 8) (t := nA) (c := 0) h1 (by have := hlen k (by omega); omega) (by omega) (by omega) (by omega) (by omega)
      rw [Nat.zero_add] at g1
      refine Or.inl ⟨m5, ⟨by rw [ldA_s, hf, if_pos rfl, ← List.append_assoc]; exact g2, h2.tr (g3.wd (by omega) (by omega) (by simp))⟩, ?_⟩
      show S_X8_joins_23 N (L_X8_joins_23 N f) m3 (nI i) (nI j) (nI k) = _
      unfold S_X8_joins_23 B_X8_joins_58
      simp (disch := omega) only [zi_t, zi_f, bnd_t, zg_in, zx, nI_ltI, nI_leI, nI_eq, nI_add, pk_mul, pk_sub, mup_s, mup_c, mup_j, mrw_c, if_pos, if_neg, zm_1, zm_2, zm_3, zm_4, zm_5, zm_6, zm_7, zm_8, zm_9, zf_0, zf_1, zf_2, zf_3, zf_4, zf_5, zf_6, zf_7, zf_8, zf_9, zf_10, zf_14, zf_15, zf_16, zf_18, zf_19, zf_20, zf_24, zf_30, zf_31, zf_32, zf_33, zf_99, zf_100, zf_160, zf_200, zf_287, zf_288, zf_300, zf_1000, zf_1023, zf_1024, zf_1600, zf_3840, zf_25600, zf_36000, zf_1000000, zf_1000000000, zf_2000000000, zf_11560, za_1, za_2, za_4, za_5, za_6, za_7, za_8, za_9, za_10, za_11, za_12, za_14, za_15, za_22, za_23, za_25, za_26, za_27, za_28, za_29, za_30, za_31, za_32, za_33, za_34, za_35, za_41, za_42, za_43, za_44, za_45, za_46, za_47, za_48, za_49, za_61, za_62, za_63, za_64, za_65, za_71, za_72, za_73, za_74, za_75, za_76, za_77, za_78, za_79, za_80, za_81, za_82, za_83, za_84, za_85, za_86, za_87, za_88, za_89, za_90, za_91, za_92, za_93, za_94, za_95, za_96, za_97, za_98, za_99, za_100, za_101, za_102, za_103, za_104, za_105, za_106, za_107, za_108, x1]
      rw [cal_t x2]
      simp (disch := omega) only [zi_t, zi_f, bnd_t, zg_in, zx, nI_ltI, nI_leI, nI_eq, nI_add, pk_mul, pk_sub, mup_s, mup_c, mup_j, mrw_c, if_pos, if_neg, zm_1, zm_2, zm_3, zm_4, zm_5, zm_6, zm_7, zm_8, zm_9, zf_0, zf_1, zf_2, zf_3, zf_4, zf_5, zf_6, zf_7, zf_8, zf_9, zf_10, zf_14, zf_15, zf_16, zf_18, zf_19, zf_20, zf_24, zf_30, zf_31, zf_32, zf_33, zf_99, zf_100, zf_160, zf_200, zf_287, zf_288, zf_300, zf_1000, zf_1023, zf_1024, zf_1600, zf_3840, zf_25600, zf_36000, zf_1000000, zf_1000000000, zf_2000000000, zf_11560, za_1, za_2, za_4, za_5, za_6, za_7, za_8, za_9, za_10, za_11, za_12, za_14, za_15, za_22, za_23, za_25, za_26, za_27, za_28, za_29, za_30, za_31, za_32, za_33, za_34, za_35, za_41, za_42, za_43, za_44, za_45, za_46, za_47, za_48, za_49, za_61, za_62, za_63, za_64, za_65, za_71, za_72, za_73, za_74, za_75, za_76, za_77, za_78, za_79, za_80, za_81, za_82, za_83, za_84, za_85, za_86, za_87, za_88, za_89, za_90, za_91, za_92, za_93, za_94, za_95, za_96, za_97, za_98, za_99, za_100, za_101, za_102, za_103, za_104, za_105, za_106, za_107, za_108, bI_t, x1]
      rw [calv_t g1]
    | false =>
      rw [hf] at x2
      refine Or.inl ⟨m3, ⟨by rw [ldA_s, hf, if_neg (by simp)]; exact h1, h2⟩, ?_⟩
      show S_X8_joins_23 N (L_X8_joins_23 N f) m3 (nI i) (nI j) (nI k) = _
      unfold S_X8_joins_23 B_X8_joins_58
      simp (disch := omega) only [zi_t, zi_f, bnd_t, zg_in, zx, nI_ltI, nI_leI, nI_eq, nI_add, pk_mul, pk_sub, mup_s, mup_c, mup_j, mrw_c, if_pos, if_neg, zm_1, zm_2, zm_3, zm_4, zm_5, zm_6, zm_7, zm_8, zm_9, zf_0, zf_1, zf_2, zf_3, zf_4, zf_5, zf_6, zf_7, zf_8, zf_9, zf_10, zf_14, zf_15, zf_16, zf_18, zf_19, zf_20, zf_24, zf_30, zf_31, zf_32, zf_33, zf_99, zf_100, zf_160, zf_200, zf_287, zf_288, zf_300, zf_1000, zf_1023, zf_1024, zf_1600, zf_3840, zf_25600, zf_36000, zf_1000000, zf_1000000000, zf_2000000000, zf_11560, za_1, za_2, za_4, za_5, za_6, za_7, za_8, za_9, za_10, za_11, za_12, za_14, za_15, za_22, za_23, za_25, za_26, za_27, za_28, za_29, za_30, za_31, za_32, za_33, za_34, za_35, za_41, za_42, za_43, za_44, za_45, za_46, za_47, za_48, za_49, za_61, za_62, za_63, za_64, za_65, za_71, za_72, za_73, za_74, za_75, za_76, za_77, za_78, za_79, za_80, za_81, za_82, za_83, za_84, za_85, za_86, za_87, za_88, za_89, za_90, za_91, za_92, za_93, za_94, za_95, za_96, za_97, za_98, za_99, za_100, za_101, za_102, za_103, za_104, za_105, za_106, za_107, za_108, x1]
      rw [cal_t x2]
      simp (disch := omega) only [zi_t, zi_f, bnd_t, zg_in, zx, nI_ltI, nI_leI, nI_eq, nI_add, pk_mul, pk_sub, mup_s, mup_c, mup_j, mrw_c, if_pos, if_neg, zm_1, zm_2, zm_3, zm_4, zm_5, zm_6, zm_7, zm_8, zm_9, zf_0, zf_1, zf_2, zf_3, zf_4, zf_5, zf_6, zf_7, zf_8, zf_9, zf_10, zf_14, zf_15, zf_16, zf_18, zf_19, zf_20, zf_24, zf_30, zf_31, zf_32, zf_33, zf_99, zf_100, zf_160, zf_200, zf_287, zf_288, zf_300, zf_1000, zf_1023, zf_1024, zf_1600, zf_3840, zf_25600, zf_36000, zf_1000000, zf_1000000000, zf_2000000000, zf_11560, za_1, za_2, za_4, za_5, za_6, za_7, za_8, za_9, za_10, za_11, za_12, za_14, za_15, za_22, za_23, za_25, za_26, za_27, za_28, za_29, za_30, za_31, za_32, za_33, za_34, za_35, za_41, za_42, za_43, za_44, za_45, za_46, za_47, za_48, za_49, za_61, za_62, za_63, za_64, za_65, za_71, za_72, za_73, za_74, za_75, za_76, za_77, za_78, za_79, za_80, za_81, za_82, za_83, za_84, za_85, za_86, za_87, za_88, za_89, za_90, za_91, za_92, za_93, za_94, za_95, za_96, za_97, za_98, za_99, za_100, za_101, za_102, za_103, za_104, za_105, za_106, za_107, za_108, bI_f]
  · rintro f m3 ⟨h1, h2⟩
    have x1 := (mA.fx h2 (by omega)).1
    show ∃ mw, _ ∧ _ ∧ S_X8_joins_23 N (L_X8_joins_23 N f) m3 (nI i) (nI j) (nI nA) = _
    unfold S_X8_joins_23
    simp (disch := omega) only [zi_t, zi_f, bnd_t, zg_in, zx, nI_ltI, nI_leI, nI_eq, nI_add, pk_mul, pk_sub, mup_s, mup_c, mup_j, mrw_c, if_pos, if_neg, zm_1, zm_2, zm_3, zm_4, zm_5, zm_6, zm_7, zm_8, zm_9, zf_0, zf_1, zf_2, zf_3, zf_4, zf_5, zf_6, zf_7, zf_8, zf_9, zf_10, zf_14, zf_15, zf_16, zf_18, zf_19, zf_20, zf_24, zf_30, zf_31, zf_32, zf_33, zf_99, zf_100, zf_160, zf_200, zf_287, zf_288, zf_300, zf_1000, zf_1023, zf_1024, zf_1600, zf_3840, zf_25600, zf_36000, zf_1000000, zf_1000000000, zf_2000000000, zf_11560, za_1, za_2, za_4, za_5, za_6, za_7, za_8, za_9, za_10, za_11, za_12, za_14, za_15, za_22, za_23, za_25, za_26, za_27, za_28, za_29, za_30, za_31, za_32, za_33, za_34, za_35, za_41, za_42, za_43, za_44, za_45, za_46, za_47, za_48, za_49, za_61, za_62, za_63, za_64, za_65, za_71, za_72, za_73, za_74, za_75, za_76, za_77, za_78, za_79, za_80, za_81, za_82, za_83, za_84, za_85, za_86, za_87, za_88, za_89, za_90, za_91, za_92, za_93, za_94, za_95, za_96, za_97, za_98, za_99, za_100, za_101, za_102, za_103, za_104, za_105, za_106, za_107, za_108, x1]
    refine loopF (fun f (m : Mem) k => L_X8_joins_66 N f m (nI i) (nI j) (nI k)) nB (fun k m' => MW m' (shE (fun _ => false) fB nA k) (jnD nA fA LA LB) ∧ Fx 80 83 [14] m m') (fun o => ∃ mw, MW mw (shE (fun _ => false) fB nA nB) (jnD nA fA LA LB) ∧ Fx 80 83 [14] m mw ∧ o = tW N mw (nI 0)) ?_ ?_ N 0 m3 (Nat.zero_le _) ⟨by rw [shE_0]; exact h1, h2⟩ (by omega)
    · rintro f k m5 hk ⟨k1, k2⟩
      have y1 := (mA.fx k2 (by omega)).1
      have y2 := (mB.fx k2 (by omega)).1
      have y3 := mw_isEndOf (N := N) (mB.fx k2 (by omega)).2.1 hj b2 hk
      refine Or.inl ⟨mup m5 82 (nA + k) (bI (fB k)), ⟨by rw [← shE_up]; exact mw_end k1 (nA + k) (fB k), k2.up (by omega) (by omega) (by omega)⟩, ?_⟩
      show S_X8_joins_66 N (L_X8_joins_66 N f) m5 (nI i) (nI j) (nI k) = _
      unfold S_X8_joins_66
      simp (disch := omega) only [zi_t, zi_f, bnd_t, zg_in, zx, nI_ltI, nI_leI, nI_eq, nI_add, pk_mul, pk_sub, mup_s, mup_c, mup_j, mrw_c, if_pos, if_neg, zm_1, zm_2, zm_3, zm_4, zm_5, zm_6, zm_7, zm_8, zm_9, zf_0, zf_1, zf_2, zf_3, zf_4, zf_5, zf_6, zf_7, zf_8, zf_9, zf_10, zf_14, zf_15, zf_16, zf_18, zf_19, zf_20, zf_24, zf_30, zf_31, zf_32, zf_33, zf_99, zf_100, zf_160, zf_200, zf_287, zf_288, zf_300, zf_1000, zf_1023, zf_1024, zf_1600, zf_3840, zf_25600, zf_36000, zf_1000000, zf_1000000000, zf_2000000000, zf_11560, za_1, za_2, za_4, za_5, za_6, za_7, za_8, za_9, za_10, za_11, za_12, za_14, za_15, za_22, za_23, za_25, za_26, za_27, za_28, za_29, za_30, za_31, za_32, za_33, za_34, za_35, za_41, za_42, za_43, za_44, za_45, za_46, za_47, za_48, za_49, za_61, za_62, za_63, za_64, za_65, za_71, za_72, za_73, za_74, za_75, za_76, za_77, za_78, za_79, za_80, za_81, za_82, za_83, za_84, za_85, za_86, za_87, za_88, za_89, za_90, za_91, za_92, za_93, za_94, za_95, za_96, za_97, za_98, za_99, za_100, za_101, za_102, za_103, za_104, za_105, za_106, za_107, za_108, y1, y2]
      rw [cal_t y3]
      rw [gd_t (bI_isb' _)]
    · rintro f m5 ⟨k1, k2⟩
      have y2 := (mB.fx k2 (by omega)).1
      refine ⟨m5, k1, k2, ?_⟩
      show S_X8_joins_66 N (L_X8_joins_66 N f) m5 (nI i) (nI j) (nI nB) = _
      unfold S_X8_joins_66 tW
      simp (disch := omega) only [zi_t, zi_f, bnd_t, zg_in, zx, nI_ltI, nI_leI, nI_eq, nI_add, pk_mul, pk_sub, mup_s, mup_c, mup_j, mrw_c, if_pos, if_neg, zm_1, zm_2, zm_3, zm_4, zm_5, zm_6, zm_7, zm_8, zm_9, zf_0, zf_1, zf_2, zf_3, zf_4, zf_5, zf_6, zf_7, zf_8, zf_9, zf_10, zf_14, zf_15, zf_16, zf_18, zf_19, zf_20, zf_24, zf_30, zf_31, zf_32, zf_33, zf_99, zf_100, zf_160, zf_200, zf_287, zf_288, zf_300, zf_1000, zf_1023, zf_1024, zf_1600, zf_3840, zf_25600, zf_36000, zf_1000000, zf_1000000000, zf_2000000000, zf_11560, za_1, za_2, za_4, za_5, za_6, za_7, za_8, za_9, za_10, za_11, za_12, za_14, za_15, za_22, za_23, za_25, za_26, za_27, za_28, za_29, za_30, za_31, za_32, za_33, za_34, za_35, za_41, za_42, za_43, za_44, za_45, za_46, za_47, za_48, za_49, za_61, za_62, za_63, za_64, za_65, za_71, za_72, za_73, za_74, za_75, za_76, za_77, za_78, za_79, za_80, za_81, za_82, za_83, za_84, za_85, za_86, za_87, za_88, za_89, za_90, za_91, za_92, za_93, za_94, za_95, za_96, za_97, za_98, za_99, za_100, za_101, za_102, za_103, za_104, za_105, za_106, za_107, za_108, y2]
theorem cl_join {N i j nA nB : Nat} {fA fB : Nat → Bool} {LA LB : ArL} {m : Mem} {Ms : List Ma} {w : List Nat} {ls : Ls} (hN : 40000 < N) (hA : VM (nA, fA, LA)) (hB : VM (nB, fB, LB)) (hl : Ms.length ≤ 24) (hi : i < Ms.length) (hj : j < Ms.length) (hC : InC m Ms w ls) (mA : MC m (200 + 4 * i) nA (eB fA nA) LA) (mB : MC m (200 + 4 * j) nB (eB fB nB) LB) :
    ∃ md, F_X7_join N m (nI i) (nI j) = calx (F_X7_keepDraft N md) (fun r m => some (.inl r, m)) ∧ Off 3 16 m md ∧ DR md (nA + nB) 0 (shE (fun _ => false) fB nA nB) (jnD nA fA LA LB) := by
  obtain ⟨a1, a2, a3, a4, a5, a6, a7⟩ := hA
  obtain ⟨b1, b2, b3, b4, b5, b6, b7⟩ := hB
  have a1 : 1 ≤ nA := a1
  have b1 : 1 ≤ nB := b1
  have a2 : nA ≤ 32 := a2
  have b2 : nB ≤ 32 := b2
  have a3 : LA.length ≤ 160 := a3
  have b3 : LB.length ≤ 160 := b3
  obtain ⟨m2, c1, c2, c3⟩ := dr_begin' (N := N) (n := nA + nB) (st := 0) (m := m) (by omega) (by omega)
  have f2 : Off 3 16 m m2 := c3.wd (by omega) (by omega)
  obtain ⟨m4, d1, d2, d3⟩ := dr_addArcsOf (N := N) (b := 0) (by omega) c2 (by omega) (by omega) (mA.off (by omega) f2).2.2 a5 (by show 0 + nA ≤ _; omega) a3 (by show 0 + _ ≤ _; omega)
  have f4 : Off 3 16 m m4 := f2.tr (d3.wd (by omega) (by omega))
  obtain ⟨m6, e1, e2, e3⟩ := dr_addArcsOf (N := N) (b := nA) (by omega) d2 (by omega) (by omega) (mB.off (by omega) f4).2.2 b5 (by show nA + nB ≤ _; omega) b3 (by rw [List.length_append, shA_len]; show 0 + _ + _ ≤ _; omega)
  have f6 : Off 3 16 m m6 := f4.tr (e3.wd (by omega) (by omega))
  have mA6 := mA.off (by omega) f6
  obtain ⟨m8, g1, g2, g3⟩ := dr_lead (N := N) (b := 0) (t := nA) (by omega) e2 (by omega) (by omega) mA6.1 mA6.2.1 a2 (by omega) (by omega) (by rw [List.length_append, List.length_append, shA_len, shA_len]; show 0 + _ + _ + _ ≤ _; omega)
  have f8 : Off 3 16 m m8 := f6.tr (g3.wd (by omega) (by omega))
  have mB8 := mB.off (by omega) f8
  obtain ⟨m10, k1, k2, k3⟩ := dr_addEndsOf (N := N) (b := nA) (by omega) g2 (by omega) (by omega) mB8.1 mB8.2.1 b2 (by omega)
  have f10 : Off 3 16 m m10 := f8.tr (k3.wd (by omega) (by omega))
  refine ⟨m10, ?_, f10, k2⟩
  have xA := mA.1
  have xB := mB.1
  have xA4 := (mA.off (by omega) f4).1
  have xA6 := mA6.1
  have xA8 := (mA.off (by omega) f8).1
  unfold F_X7_join
  rw [calx_t (need_ok hC hl hi), calx_t (need_ok hC hl hj)]
  simp (disch := omega) only [zi_t, zi_f, bnd_t, zg_in, zx, nI_ltI, nI_leI, nI_eq, nI_add, pk_mul, pk_sub, mup_s, mup_c, mup_j, mrw_c, if_pos, if_neg, zm_1, zm_2, zm_3, zm_4, zm_5, zm_6, zm_7, zm_8, zm_9, zf_0, zf_1, zf_2, zf_3, zf_4, zf_5, zf_6, zf_7, zf_8, zf_9, zf_10, zf_14, zf_15, zf_16, zf_18, zf_19, zf_20, zf_24, zf_30, zf_31, zf_32, zf_33, zf_99, zf_100, zf_160, zf_200, zf_287, zf_288, zf_300, zf_1000, zf_1023, zf_1024, zf_1600, zf_3840, zf_25600, zf_36000, zf_1000000, zf_1000000000, zf_2000000000, zf_11560, za_1, za_2, za_4, za_5, za_6, za_7, za_8, za_9, za_10, za_11, za_12, za_14, za_15, za_22, za_23, za_25, za_26, za_27, za_28, za_29, za_30, za_31, za_32, za_33, za_34, za_35, za_41, za_42, za_43, za_44, za_45, za_46, za_47, za_48, za_49, za_61, za_62, za_63, za_64, za_65, za_71, za_72, za_73, za_74, za_75, za_76, za_77, za_78, za_79, za_80, za_81, za_82, za_83, za_84, za_85, za_86, za_87, za_88, za_89, za_90, za_91, za_92, za_93, za_94, za_95, za_96, za_97, za_98, za_99, za_100, za_101, za_102, za_103, za_104, za_105, za_106, za_107, za_108, xA, xB]
  rw [calv_t c1, calv_t d1, xA4, calv_t e1, xA6, calv_t g1, xA8, calv_t k1]
theorem sim_join {N : Nat} (hN : 40000 < N) (x y : Int32) (Ms : List Ma) (w : List Nat) (ls : Ls) (hV : InV Ms w ls) : Sim1 (fun e => nI (3 - e)) (fun m => F_X7_join N m x y) (fun m => F_X8_join N m x y) Ms w ls := by
  have v1 := hV.1
  rcases i32_cases x Ms.length with ⟨i, hi, rfl⟩ | hx
  · rcases i32_cases y Ms.length with ⟨j, hj, rfl⟩ | hy
    · obtain ⟨nA, fA, LA, gA⟩ := ma_get hi
      obtain ⟨nB, fB, LB, gB⟩ := ma_get hj
      have vA := hV.2.1 _ (List.mem_of_getElem? gA)
      have vB := hV.2.1 _ (List.mem_of_getElem? gB)
      have a1 : 1 ≤ nA := vA.1
      have a2 : nA ≤ 32 := vA.2.1
      have b2 : nB ≤ 32 := vB.2.1
      obtain ⟨k1, k2, k3⟩ := jn_af vA vB
      have hlen := jn_len (nA := nA) (fA := fA) (LA := LA) (LB := LB) vA.2.2.1 vB.2.2.1 a2
      refine sim_makeJ (n := nA + nB) (st := 0) hN hV rfl (by omega) (by omega) (by omega) k1 (by omega) (k1.wd (by omega)) (fun _ => Iff.rfl) (fun _ _ => rfl) k2 k3 (fun m hC => cl_join hN vA vB v1 hi hj hC (hC.2.1 i _ gA) (hC.2.1 j _ gB)) (fun m hM hl24 => ?_) (fun m hM hl24 => ?_)
      · obtain ⟨mw, g1, g2, g3⟩ := mw_joins hN vA vB (by omega) (by omega) (hM.2.1 i _ gA) (hM.2.1 j _ gB)
        refine ⟨mw, g1, g2, fun b m1 hm1 => ?_⟩
        show F_X8_join N m _ _ = _
        unfold F_X8_join
        rw [cal_t (ism_ok hM v1 hi)]
        simp (disch := omega) only [zi_t, zi_f, bnd_t, zg_in, zx, nI_ltI, nI_leI, nI_eq, nI_add, pk_mul, pk_sub, mup_s, mup_c, mup_j, mrw_c, if_pos, if_neg, zm_1, zm_2, zm_3, zm_4, zm_5, zm_6, zm_7, zm_8, zm_9, zf_0, zf_1, zf_2, zf_3, zf_4, zf_5, zf_6, zf_7, zf_8, zf_9, zf_10, zf_14, zf_15, zf_16, zf_18, zf_19, zf_20, zf_24, zf_30, zf_31, zf_32, zf_33, zf_99, zf_100, zf_160, zf_200, zf_287, zf_288, zf_300, zf_1000, zf_1023, zf_1024, zf_1600, zf_3840, zf_25600, zf_36000, zf_1000000, zf_1000000000, zf_2000000000, zf_11560, za_1, za_2, za_4, za_5, za_6, za_7, za_8, za_9, za_10, za_11, za_12, za_14, za_15, za_22, za_23, za_25, za_26, za_27, za_28, za_29, za_30, za_31, za_32, za_33, za_34, za_35, za_41, za_42, za_43, za_44, za_45, za_46, za_47, za_48, za_49, za_61, za_62, za_63, za_64, za_65, za_71, za_72, za_73, za_74, za_75, za_76, za_77, za_78, za_79, za_80, za_81, za_82, za_83, za_84, za_85, za_86, za_87, za_88, za_89, za_90, za_91, za_92, za_93, za_94, za_95, za_96, za_97, za_98, za_99, za_100, za_101, za_102, za_103, za_104, za_105, za_106, za_107, za_108]
        rw [cal_t (ism_ok hM v1 hj)]
        simp (disch := omega) only [zi_t, zi_f, bnd_t, zg_in, zx, nI_ltI, nI_leI, nI_eq, nI_add, pk_mul, pk_sub, mup_s, mup_c, mup_j, mrw_c, if_pos, if_neg, zm_1, zm_2, zm_3, zm_4, zm_5, zm_6, zm_7, zm_8, zm_9, zf_0, zf_1, zf_2, zf_3, zf_4, zf_5, zf_6, zf_7, zf_8, zf_9, zf_10, zf_14, zf_15, zf_16, zf_18, zf_19, zf_20, zf_24, zf_30, zf_31, zf_32, zf_33, zf_99, zf_100, zf_160, zf_200, zf_287, zf_288, zf_300, zf_1000, zf_1023, zf_1024, zf_1600, zf_3840, zf_25600, zf_36000, zf_1000000, zf_1000000000, zf_2000000000, zf_11560, za_1, za_2, za_4, za_5, za_6, za_7, za_8, za_9, za_10, za_11, za_12, za_14, za_15, za_22, za_23, za_25, za_26, za_27, za_28, za_29, za_30, za_31, za_32, za_33, za_34, za_35, za_41, za_42, za_43, za_44, za_45, za_46, za_47, za_48, za_49, za_61, za_62, za_63, za_64, za_65, za_71, za_72, za_73, za_74, za_75, za_76, za_77, za_78, za_79, za_80, za_81, za_82, za_83, za_84, za_85, za_86, za_87, za_88, za_89, za_90, za_91, za_92, za_93, za_94, za_95, za_96, za_97, za_98, za_99, za_100, za_101, za_102, za_103, za_104, za_105, za_106, za_107, za_108]
        unfold B_X8_join_21
        simp (disch := omega) only [zi_t, zi_f, bnd_t, zg_in, zx, nI_ltI, nI_leI, nI_eq, nI_add, pk_mul, pk_sub, mup_s, mup_c, mup_j, mrw_c, if_pos, if_neg, zm_1, zm_2, zm_3, zm_4, zm_5, zm_6, zm_7, zm_8, zm_9, zf_0, zf_1, zf_2, zf_3, zf_4, zf_5, zf_6, zf_7, zf_8, zf_9, zf_10, zf_14, zf_15, zf_16, zf_18, zf_19, zf_20, zf_24, zf_30, zf_31, zf_32, zf_33, zf_99, zf_100, zf_160, zf_200, zf_287, zf_288, zf_300, zf_1000, zf_1023, zf_1024, zf_1600, zf_3840, zf_25600, zf_36000, zf_1000000, zf_1000000000, zf_2000000000, zf_11560, za_1, za_2, za_4, za_5, za_6, za_7, za_8, za_9, za_10, za_11, za_12, za_14, za_15, za_22, za_23, za_25, za_26, za_27, za_28, za_29, za_30, za_31, za_32, za_33, za_34, za_35, za_41, za_42, za_43, za_44, za_45, za_46, za_47, za_48, za_49, za_61, za_62, za_63, za_64, za_65, za_71, za_72, za_73, za_74, za_75, za_76, za_77, za_78, za_79, za_80, za_81, za_82, za_83, za_84, za_85, za_86, za_87, za_88, za_89, za_90, za_91, za_92, za_93, za_94, za_95, za_96, za_97, za_98, za_99, za_100, za_101, za_102, za_103, za_104, za_105, za_106, za_107, za_108]
        rw [cal_t (ist_y hM hl24)]
        simp (disch := omega) only [zi_t, zi_f, bnd_t, zg_in, zx, nI_ltI, nI_leI, nI_eq, nI_add, pk_mul, pk_sub, mup_s, mup_c, mup_j, mrw_c, if_pos, if_neg, zm_1, zm_2, zm_3, zm_4, zm_5, zm_6, zm_7, zm_8, zm_9, zf_0, zf_1, zf_2, zf_3, zf_4, zf_5, zf_6, zf_7, zf_8, zf_9, zf_10, zf_14, zf_15, zf_16, zf_18, zf_19, zf_20, zf_24, zf_30, zf_31, zf_32, zf_33, zf_99, zf_100, zf_160, zf_200, zf_287, zf_288, zf_300, zf_1000, zf_1023, zf_1024, zf_1600, zf_3840, zf_25600, zf_36000, zf_1000000, zf_1000000000, zf_2000000000, zf_11560, za_1, za_2, za_4, za_5, za_6, za_7, za_8, za_9, za_10, za_11, za_12, za_14, za_15, za_22, za_23, za_25, za_26, za_27, za_28, za_29, za_30, za_31, za_32, za_33, za_34, za_35, za_41, za_42, za_43, za_44, za_45, za_46, za_47, za_48, za_49, za_61, za_62, za_63, za_64, za_65, za_71, za_72, za_73, za_74, za_75, za_76, za_77, za_78, za_79, za_80, za_81, za_82, za_83, za_84, za_85, za_86, za_87, za_88, za_89, za_90, za_91, za_92, za_93, za_94, za_95, za_96, za_97, za_98, za_99, za_100, za_101, za_102, za_103, za_104, za_105, za_106, za_107, za_108]
        rw [g3, cal_t (tW_of hm1)]
        cases b
        · rfl
        · rfl
      · show F_X8_join N m _ _ = _
        unfold F_X8_join
        rw [cal_t (ism_ok hM v1 hi)]
        simp (disch := omega) only [zi_t, zi_f, bnd_t, zg_in, zx, nI_ltI, nI_leI, nI_eq, nI_add, pk_mul, pk_sub, mup_s, mup_c, mup_j, mrw_c, if_pos, if_neg, zm_1, zm_2, zm_3, zm_4, zm_5, zm_6, zm_7, zm_8, zm_9, zf_0, zf_1, zf_2, zf_3, zf_4, zf_5, zf_6, zf_7, zf_8, zf_9, zf_10, zf_14, zf_15, zf_16, zf_18, zf_19, zf_20, zf_24, zf_30, zf_31, zf_32, zf_33, zf_99, zf_100, zf_160, zf_200, zf_287, zf_288, zf_300, zf_1000, zf_1023, zf_1024, zf_1600, zf_3840, zf_25600, zf_36000, zf_1000000, zf_1000000000, zf_2000000000, zf_11560, za_1, za_2, za_4, za_5, za_6, za_7, za_8, za_9, za_10, za_11, za_12, za_14, za_15, za_22, za_23, za_25, za_26, za_27, za_28, za_29, za_30, za_31, za_32, za_33, za_34, za_35, za_41, za_42, za_43, za_44, za_45, za_46, za_47, za_48, za_49, za_61, za_62, za_63, za_64, za_65, za_71, za_72, za_73, za_74, za_75, za_76, za_77, za_78, za_79, za_80, za_81, za_82, za_83, za_84, za_85, za_86, za_87, za_88, za_89, za_90, za_91, za_92, za_93, za_94, za_95, za_96, za_97, za_98, za_99, za_100, za_101, za_102, za_103, za_104, za_105, za_106, za_107, za_108]
        rw [cal_t (ism_ok hM v1 hj)]
        simp (disch := omega) only [zi_t, zi_f, bnd_t, zg_in, zx, nI_ltI, nI_leI, nI_eq, nI_add, pk_mul, pk_sub, mup_s, mup_c, mup_j, mrw_c, if_pos, if_neg, zm_1, zm_2, zm_3, zm_4, zm_5, zm_6, zm_7, zm_8, zm_9, zf_0, zf_1, zf_2, zf_3, zf_4, zf_5, zf_6, zf_7, zf_8, zf_9, zf_10, zf_14, zf_15, zf_16, zf_18, zf_19, zf_20, zf_24, zf_30, zf_31, zf_32, zf_33, zf_99, zf_100, zf_160, zf_200, zf_287, zf_288, zf_300, zf_1000, zf_1023, zf_1024, zf_1600, zf_3840, zf_25600, zf_36000, zf_1000000, zf_1000000000, zf_2000000000, zf_11560, za_1, za_2, za_4, za_5, za_6, za_7, za_8, za_9, za_10, za_11, za_12, za_14, za_15, za_22, za_23, za_25, za_26, za_27, za_28, za_29, za_30, za_31, za_32, za_33, za_34, za_35, za_41, za_42, za_43, za_44, za_45, za_46, za_47, za_48, za_49, za_61, za_62, za_63, za_64, za_65, za_71, za_72, za_73, za_74, za_75, za_76, za_77, za_78, za_79, za_80, za_81, za_82, za_83, za_84, za_85, za_86, za_87, za_88, za_89, za_90, za_91, za_92, za_93, za_94, za_95, za_96, za_97, za_98, za_99, za_100, za_101, za_102, za_103, za_104, za_105, za_106, za_107, za_108]
        unfold B_X8_join_21
        simp (disch := omega) only [zi_t, zi_f, bnd_t, zg_in, zx, nI_ltI, nI_leI, nI_eq, nI_add, pk_mul, pk_sub, mup_s, mup_c, mup_j, mrw_c, if_pos, if_neg, zm_1, zm_2, zm_3, zm_4, zm_5, zm_6, zm_7, zm_8, zm_9, zf_0, zf_1, zf_2, zf_3, zf_4, zf_5, zf_6, zf_7, zf_8, zf_9, zf_10, zf_14, zf_15, zf_16, zf_18, zf_19, zf_20, zf_24, zf_30, zf_31, zf_32, zf_33, zf_99, zf_100, zf_160, zf_200, zf_287, zf_288, zf_300, zf_1000, zf_1023, zf_1024, zf_1600, zf_3840, zf_25600, zf_36000, zf_1000000, zf_1000000000, zf_2000000000, zf_11560, za_1, za_2, za_4, za_5, za_6, za_7, za_8, za_9, za_10, za_11, za_12, za_14, za_15, za_22, za_23, za_25, za_26, za_27, za_28, za_29, za_30, za_31, za_32, za_33, za_34, za_35, za_41, za_42, za_43, za_44, za_45, za_46, za_47, za_48, za_49, za_61, za_62, za_63, za_64, za_65, za_71, za_72, za_73, za_74, za_75, za_76, za_77, za_78, za_79, za_80, za_81, za_82, za_83, za_84, za_85, za_86, za_87, za_88, za_89, za_90, za_91, za_92, za_93, za_94, za_95, za_96, za_97, za_98, za_99, za_100, za_101, za_102, za_103, za_104, za_105, za_106, za_107, za_108]
        rw [cal_t (ist_n hM v1 hl24)]
        simp (disch := omega) only [zi_t, zi_f, bnd_t, zg_in, zx, nI_ltI, nI_leI, nI_eq, nI_add, pk_mul, pk_sub, mup_s, mup_c, mup_j, mrw_c, if_pos, if_neg, zm_1, zm_2, zm_3, zm_4, zm_5, zm_6, zm_7, zm_8, zm_9, zf_0, zf_1, zf_2, zf_3, zf_4, zf_5, zf_6, zf_7, zf_8, zf_9, zf_10, zf_14, zf_15, zf_16, zf_18, zf_19, zf_20, zf_24, zf_30, zf_31, zf_32, zf_33, zf_99, zf_100, zf_160, zf_200, zf_287, zf_288, zf_300, zf_1000, zf_1023, zf_1024, zf_1600, zf_3840, zf_25600, zf_36000, zf_1000000, zf_1000000000, zf_2000000000, zf_11560, za_1, za_2, za_4, za_5, za_6, za_7, za_8, za_9, za_10, za_11, za_12, za_14, za_15, za_22, za_23, za_25, za_26, za_27, za_28, za_29, za_30, za_31, za_32, za_33, za_34, za_35, za_41, za_42, za_43, za_44, za_45, za_46, za_47, za_48, za_49, za_61, za_62, za_63, za_64, za_65, za_71, za_72, za_73, za_74, za_75, za_76, za_77, za_78, za_79, za_80, za_81, za_82, za_83, za_84, za_85, za_86, za_87, za_88, za_89, za_90, za_91, za_92, za_93, za_94, za_95, za_96, za_97, za_98, za_99, za_100, za_101, za_102, za_103, za_104, za_105, za_106, za_107, za_108]
        unfold B_X8_join_47 B_X8_join_52
        simp (disch := omega) only [zi_t, zi_f, bnd_t, zg_in, zx, nI_ltI, nI_leI, nI_eq, nI_add, pk_mul, pk_sub, mup_s, mup_c, mup_j, mrw_c, if_pos, if_neg, zm_1, zm_2, zm_3, zm_4, zm_5, zm_6, zm_7, zm_8, zm_9, zf_0, zf_1, zf_2, zf_3, zf_4, zf_5, zf_6, zf_7, zf_8, zf_9, zf_10, zf_14, zf_15, zf_16, zf_18, zf_19, zf_20, zf_24, zf_30, zf_31, zf_32, zf_33, zf_99, zf_100, zf_160, zf_200, zf_287, zf_288, zf_300, zf_1000, zf_1023, zf_1024, zf_1600, zf_3840, zf_25600, zf_36000, zf_1000000, zf_1000000000, zf_2000000000, zf_11560, za_1, za_2, za_4, za_5, za_6, za_7, za_8, za_9, za_10, za_11, za_12, za_14, za_15, za_22, za_23, za_25, za_26, za_27, za_28, za_29, za_30, za_31, za_32, za_33, za_34, za_35, za_41, za_42, za_43, za_44, za_45, za_46, za_47, za_48, za_49, za_61, za_62, za_63, za_64, za_65, za_71, za_72, za_73, za_74, za_75, za_76, za_77, za_78, za_79, za_80, za_81, za_82, za_83, za_84, za_85, za_86, za_87, za_88, za_89, za_90, za_91, za_92, za_93, za_94, za_95, za_96, za_97, za_98, za_99, za_100, za_101, za_102, za_103, za_104, za_105, za_106, za_107, za_108]
        rw [cal_t (fine_x (by omega) (by omega))]
        simp (disch := omega) only [zi_t, zi_f, bnd_t, zg_in, zx, nI_ltI, nI_leI, nI_eq, nI_add, pk_mul, pk_sub, mup_s, mup_c, mup_j, mrw_c, if_pos, if_neg, zm_1, zm_2, zm_3, zm_4, zm_5, zm_6, zm_7, zm_8, zm_9, zf_0, zf_1, zf_2, zf_3, zf_4, zf_5, zf_6, zf_7, zf_8, zf_9, zf_10, zf_14, zf_15, zf_16, zf_18, zf_19, zf_20, zf_24, zf_30, zf_31, zf_32, zf_33, zf_99, zf_100, zf_160, zf_200, zf_287, zf_288, zf_300, zf_1000, zf_1023, zf_1024, zf_1600, zf_3840, zf_25600, zf_36000, zf_1000000, zf_1000000000, zf_2000000000, zf_11560, za_1, za_2, za_4, za_5, za_6, za_7, za_8, za_9, za_10, za_11, za_12, za_14, za_15, za_22, za_23, za_25, za_26, za_27, za_28, za_29, za_30, za_31, za_32, za_33, za_34, za_35, za_41, za_42, za_43, za_44, za_45, za_46, za_47, za_48, za_49, za_61, za_62, za_63, za_64, za_65, za_71, za_72, za_73, za_74, za_75, za_76, za_77, za_78, za_79, za_80, za_81, za_82, za_83, za_84, za_85, za_86, za_87, za_88, za_89, za_90, za_91, za_92, za_93, za_94, za_95, za_96, za_97, za_98, za_99, za_100, za_101, za_102, za_103, za_104, za_105, za_106, za_107, za_108]
    · refine sim_no hV 2 (fun m hC => ?_) (fun m hM => ?_)
      · show F_X7_join N m _ _ = _
        unfold F_X7_join
        rw [calx_t (need_ok hC v1 hi), calx_e (need_no hC v1 hy)]
      · show F_X8_join N m _ _ = _
        unfold F_X8_join
        rw [cal_t (ism_ok hM v1 hi)]
        simp (disch := omega) only [zi_t, zi_f, bnd_t, zg_in, zx, nI_ltI, nI_leI, nI_eq, nI_add, pk_mul, pk_sub, mup_s, mup_c, mup_j, mrw_c, if_pos, if_neg, zm_1, zm_2, zm_3, zm_4, zm_5, zm_6, zm_7, zm_8, zm_9, zf_0, zf_1, zf_2, zf_3, zf_4, zf_5, zf_6, zf_7, zf_8, zf_9, zf_10, zf_14, zf_15, zf_16, zf_18, zf_19, zf_20, zf_24, zf_30, zf_31, zf_32, zf_33, zf_99, zf_100, zf_160, zf_200, zf_287, zf_288, zf_300, zf_1000, zf_1023, zf_1024, zf_1600, zf_3840, zf_25600, zf_36000, zf_1000000, zf_1000000000, zf_2000000000, zf_11560, za_1, za_2, za_4, za_5, za_6, za_7, za_8, za_9, za_10, za_11, za_12, za_14, za_15, za_22, za_23, za_25, za_26, za_27, za_28, za_29, za_30, za_31, za_32, za_33, za_34, za_35, za_41, za_42, za_43, za_44, za_45, za_46, za_47, za_48, za_49, za_61, za_62, za_63, za_64, za_65, za_71, za_72, za_73, za_74, za_75, za_76, za_77, za_78, za_79, za_80, za_81, za_82, za_83, za_84, za_85, za_86, za_87, za_88, za_89, za_90, za_91, za_92, za_93, za_94, za_95, za_96, za_97, za_98, za_99, za_100, za_101, za_102, za_103, za_104, za_105, za_106, za_107, za_108]
        rw [cal_t (ism_no hM v1 hy)]
        simp (disch := omega) only [zi_t, zi_f, bnd_t, zg_in, zx, nI_ltI, nI_leI, nI_eq, nI_add, pk_mul, pk_sub, mup_s, mup_c, mup_j, mrw_c, if_pos, if_neg, zm_1, zm_2, zm_3, zm_4, zm_5, zm_6, zm_7, zm_8, zm_9, zf_0, zf_1, zf_2, zf_3, zf_4, zf_5, zf_6, zf_7, zf_8, zf_9, zf_10, zf_14, zf_15, zf_16, zf_18, zf_19, zf_20, zf_24, zf_30, zf_31, zf_32, zf_33, zf_99, zf_100, zf_160, zf_200, zf_287, zf_288, zf_300, zf_1000, zf_1023, zf_1024, zf_1600, zf_3840, zf_25600, zf_36000, zf_1000000, zf_1000000000, zf_2000000000, zf_11560, za_1, za_2, za_4, za_5, za_6, za_7, za_8, za_9, za_10, za_11, za_12, za_14, za_15, za_22, za_23, za_25, za_26, za_27, za_28, za_29, za_30, za_31, za_32, za_33, za_34, za_35, za_41, za_42, za_43, za_44, za_45, za_46, za_47, za_48, za_49, za_61, za_62, za_63, za_64, za_65, za_71, za_72, za_73, za_74, za_75, za_76, za_77, za_78, za_79, za_80, za_81, za_82, za_83, za_84, za_85, za_86, za_87, za_88, za_89, za_90, za_91, za_92, za_93, za_94, za_95, za_96, za_97, za_98, za_99, za_100, za_101, za_102, za_103, za_104, za_105, za_106, za_107, za_108]
        unfold B_X8_join_20 B_X8_join_21
        simp (disch := omega) only [zi_t, zi_f, bnd_t, zg_in, zx, nI_ltI, nI_leI, nI_eq, nI_add, pk_mul, pk_sub, mup_s, mup_c, mup_j, mrw_c, if_pos, if_neg, zm_1, zm_2, zm_3, zm_4, zm_5, zm_6, zm_7, zm_8, zm_9, zf_0, zf_1, zf_2, zf_3, zf_4, zf_5, zf_6, zf_7, zf_8, zf_9, zf_10, zf_14, zf_15, zf_16, zf_18, zf_19, zf_20, zf_24, zf_30, zf_31, zf_32, zf_33, zf_99, zf_100, zf_160, zf_200, zf_287, zf_288, zf_300, zf_1000, zf_1023, zf_1024, zf_1600, zf_3840, zf_25600, zf_36000, zf_1000000, zf_1000000000, zf_2000000000, zf_11560, za_1, za_2, za_4, za_5, za_6, za_7, za_8, za_9, za_10, za_11, za_12, za_14, za_15, za_22, za_23, za_25, za_26, za_27, za_28, za_29, za_30, za_31, za_32, za_33, za_34, za_35, za_41, za_42, za_43, za_44, za_45, za_46, za_47, za_48, za_49, za_61, za_62, za_63, za_64, za_65, za_71, za_72, za_73, za_74, za_75, za_76, za_77, za_78, za_79, za_80, za_81, za_82, za_83, za_84, za_85, za_86, za_87, za_88, za_89, za_90, za_91, za_92, za_93, za_94, za_95, za_96, za_97, za_98, za_99, za_100, za_101, za_102, za_103, za_104, za_105, za_106, za_107, za_108]
        unfold B_X8_join_52
        rw [cal_t (fine_x (by omega) (by omega))]
        simp (disch := omega) only [zi_t, zi_f, bnd_t, zg_in, zx, nI_ltI, nI_leI, nI_eq, nI_add, pk_mul, pk_sub, mup_s, mup_c, mup_j, mrw_c, if_pos, if_neg, zm_1, zm_2, zm_3, zm_4, zm_5, zm_6, zm_7, zm_8, zm_9, zf_0, zf_1, zf_2, zf_3, zf_4, zf_5, zf_6, zf_7, zf_8, zf_9, zf_10, zf_14, zf_15, zf_16, zf_18, zf_19, zf_20, zf_24, zf_30, zf_31, zf_32, zf_33, zf_99, zf_100, zf_160, zf_200, zf_287, zf_288, zf_300, zf_1000, zf_1023, zf_1024, zf_1600, zf_3840, zf_25600, zf_36000, zf_1000000, zf_1000000000, zf_2000000000, zf_11560, za_1, za_2, za_4, za_5, za_6, za_7, za_8, za_9, za_10, za_11, za_12, za_14, za_15, za_22, za_23, za_25, za_26, za_27, za_28, za_29, za_30, za_31, za_32, za_33, za_34, za_35, za_41, za_42, za_43, za_44, za_45, za_46, za_47, za_48, za_49, za_61, za_62, za_63, za_64, za_65, za_71, za_72, za_73, za_74, za_75, za_76, za_77, za_78, za_79, za_80, za_81, za_82, za_83, za_84, za_85, za_86, za_87, za_88, za_89, za_90, za_91, za_92, za_93, za_94, za_95, za_96, za_97, za_98, za_99, za_100, za_101, za_102, za_103, za_104, za_105, za_106, za_107, za_108]
  · refine sim_no hV 2 (fun m hC => ?_) (fun m hM => ?_)
    · show F_X7_join N m _ _ = _
      unfold F_X7_join
      rw [calx_e (need_no hC v1 hx)]
    · show F_X8_join N m _ _ = _
      unfold F_X8_join
      rw [cal_t (ism_no hM v1 hx)]
      simp (disch := omega) only [zi_t, zi_f, bnd_t, zg_in, zx, nI_ltI, nI_leI, nI_eq, nI_add, pk_mul, pk_sub, mup_s, mup_c, mup_j, mrw_c, if_pos, if_neg, zm_1, zm_2, zm_3, zm_4, zm_5, zm_6, zm_7, zm_8, zm_9, zf_0, zf_1, zf_2, zf_3, zf_4, zf_5, zf_6, zf_7, zf_8, zf_9, zf_10, zf_14, zf_15, zf_16, zf_18, zf_19, zf_20, zf_24, zf_30, zf_31, zf_32, zf_33, zf_99, zf_100, zf_160, zf_200, zf_287, zf_288, zf_300, zf_1000, zf_1023, zf_1024, zf_1600, zf_3840, zf_25600, zf_36000, zf_1000000, zf_1000000000, zf_2000000000, zf_11560, za_1, za_2, za_4, za_5, za_6, za_7, za_8, za_9, za_10, za_11, za_12, za_14, za_15, za_22, za_23, za_25, za_26, za_27, za_28, za_29, za_30, za_31, za_32, za_33, za_34, za_35, za_41, za_42, za_43, za_44, za_45, za_46, za_47, za_48, za_49, za_61, za_62, za_63, za_64, za_65, za_71, za_72, za_73, za_74, za_75, za_76, za_77, za_78, za_79, za_80, za_81, za_82, za_83, za_84, za_85, za_86, za_87, za_88, za_89, za_90, za_91, za_92, za_93, za_94, za_95, za_96, za_97, za_98, za_99, za_100, za_101, za_102, za_103, za_104, za_105, za_106, za_107, za_108]
      unfold B_X8_join_20 B_X8_join_21
      simp (disch := omega) only [zi_t, zi_f, bnd_t, zg_in, zx, nI_ltI, nI_leI, nI_eq, nI_add, pk_mul, pk_sub, mup_s, mup_c, mup_j, mrw_c, if_pos, if_neg, zm_1, zm_2, zm_3, zm_4, zm_5, zm_6, zm_7, zm_8, zm_9, zf_0, zf_1, zf_2, zf_3, zf_4, zf_5, zf_6, zf_7, zf_8, zf_9, zf_10, zf_14, zf_15, zf_16, zf_18, zf_19, zf_20, zf_24, zf_30, zf_31, zf_32, zf_33, zf_99, zf_100, zf_160, zf_200, zf_287, zf_288, zf_300, zf_1000, zf_1023, zf_1024, zf_1600, zf_3840, zf_25600, zf_36000, zf_1000000, zf_1000000000, zf_2000000000, zf_11560, za_1, za_2, za_4, za_5, za_6, za_7, za_8, za_9, za_10, za_11, za_12, za_14, za_15, za_22, za_23, za_25, za_26, za_27, za_28, za_29, za_30, za_31, za_32, za_33, za_34, za_35, za_41, za_42, za_43, za_44, za_45, za_46, za_47, za_48, za_49, za_61, za_62, za_63, za_64, za_65, za_71, za_72, za_73, za_74, za_75, za_76, za_77, za_78, za_79, za_80, za_81, za_82, za_83, za_84, za_85, za_86, za_87, za_88, za_89, za_90, za_91, za_92, za_93, za_94, za_95, za_96, za_97, za_98, za_99, za_100, za_101, za_102, za_103, za_104, za_105, za_106, za_107, za_108]
      unfold B_X8_join_52
      rw [cal_t (fine_x (by omega) (by omega))]
      simp (disch := omega) only [zi_t, zi_f, bnd_t, zg_in, zx, nI_ltI, nI_leI, nI_eq, nI_add, pk_mul, pk_sub, mup_s, mup_c, mup_j, mrw_c, if_pos, if_neg, zm_1, zm_2, zm_3, zm_4, zm_5, zm_6, zm_7, zm_8, zm_9, zf_0, zf_1, zf_2, zf_3, zf_4, zf_5, zf_6, zf_7, zf_8, zf_9, zf_10, zf_14, zf_15, zf_16, zf_18, zf_19, zf_20, zf_24, zf_30, zf_31, zf_32, zf_33, zf_99, zf_100, zf_160, zf_200, zf_287, zf_288, zf_300, zf_1000, zf_1023, zf_1024, zf_1600, zf_3840, zf_25600, zf_36000, zf_1000000, zf_1000000000, zf_2000000000, zf_11560, za_1, za_2, za_4, za_5, za_6, za_7, za_8, za_9, za_10, za_11, za_12, za_14, za_15, za_22, za_23, za_25, za_26, za_27, za_28, za_29, za_30, za_31, za_32, za_33, za_34, za_35, za_41, za_42, za_43, za_44, za_45, za_46, za_47, za_48, za_49, za_61, za_62, za_63, za_64, za_65, za_71, za_72, za_73, za_74, za_75, za_76, za_77, za_78, za_79, za_80, za_81, za_82, za_83, za_84, za_85, za_86, za_87, za_88, za_89, za_90, za_91, za_92, za_93, za_94, za_95, za_96, za_97, za_98, za_99, za_100, za_101, za_102, za_103, za_104, za_105, za_106, za_107, za_108]
