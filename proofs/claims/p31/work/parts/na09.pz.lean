theorem acy_bd {g : Nat → Nat} {n : Nat} {L : ArL} (h : Acy g L) (hok : DOK n L) : ∃ r : Nat → Nat, (∀ s, r s ≤ n) ∧ (∀ s, s < n → r s < n) ∧ ∀ q, q ∈ L → g q.1 = 8 → r (too q.1) < r (fr q.1) := by
  obtain ⟨r, hr⟩ := h
  refine ⟨fun s => cnt (fun t => decide (r t < r s)) n, fun s => cnt_le _ n, fun s hs => ?_, fun q hq h8 => ?_⟩
  · have h1 := cnt_lt (a := fun t => decide (r t < r s)) (b := fun _ => true) (fun _ _ => rfl) (x := s) rfl (by simp) n hs
    have h2 := cnt_le (fun _ => true) n
    show cnt (fun t => decide (r t < r s)) n < n
    omega
  · have h1 := hr q hq h8
    have h2 : too q.1 < n := (hok q hq).2.2.1
    exact cnt_lt (a := fun t => decide (r t < r (too q.1))) (b := fun t => decide (r t < r (fr q.1))) (fun s hs => by
      have hs : decide (r s < r (too q.1)) = true := hs
      rw [decide_eq_true_eq] at hs
      show decide (r s < r (fr q.1)) = true
      rw [decide_eq_true_eq]
      omega) (x := too q.1) (by
      show decide (r (too q.1) < r (fr q.1)) = true
      rw [decide_eq_true_eq]; exact h1) (by simp) n h2
theorem shA_af {n k b : Nat} {ru rl : Nat → Nat} {L : ArL} (hok : DOK k L) (hb : b + k ≤ n) (hu : ∀ q, q ∈ L → upr q.1 = 8 → ru (b + too q.1) < ru (b + fr q.1)) (hl : ∀ q, q ∈ L → lwr q.1 = 8 → rl (b + too q.1) < rl (b + fr q.1)) : ∀ q, q ∈ shA b L → AF n ru rl q := by
  intro q hq
  obtain ⟨a, ha, rfl⟩ := List.mem_map.mp hq
  obtain ⟨h1, h2, h3, h4, h5, h6⟩ := hok a ha
  exact ⟨b + fr a.1, upr a.1, lwr a.1, b + too a.1, a.2, rfl, by omega, h4, h5, by omega, h6, hu a ha, hl a ha⟩
theorem ldA_af {n k b t : Nat} {ru rl : Nat → Nat} {f : Nat → Bool} (hb : b + k ≤ n) (ht : t < n) (h : ∀ s, s < k → f s = true → ru t < ru (b + s) ∧ rl t < rl (b + s)) : ∀ q, q ∈ ldA f b t k → AF n ru rl q := by
  intro q hq
  obtain ⟨s, hs, rfl⟩ := List.mem_map.mp hq
  have h1 := List.mem_filter.mp hs
  have h2 := List.mem_range.mp h1.1
  have h3 := h s h2 h1.2
  exact ⟨b + s, 8, 8, t, 0, rfl, by omega, by omega, by omega, ht, by omega, fun _ => h3.1, fun _ => h3.2⟩
theorem shA_len (b : Nat) (L : ArL) : (shA b L).length = L.length := List.length_map ..
theorem MC.off {m m' : Mem} {a n : Nat} {e : Int32} {L : ArL} (h : MC m a n e L) (ha : 200 ≤ a) (ho : Off 3 16 m m') : MC m' a n e L := h.cg (ho a (by omega)) (ho _ (by omega)) (ho _ (by omega)) (ho _ (by omega))
theorem MM.fx {m m' : Mem} {i n lo hi : Nat} {J : List Nat} {e : Int32} {L : ArL} (h : MM m i n e L) (hf : Fx lo hi J m m') (h1 : 80 ≤ lo) : MM m' i n e L := h.cg (fun k a b => by rw [hf.1 k (by omega) (by omega)]) (fun k j a b _ => by rw [hf.1 k (by omega) (by omega)])
theorem ma_get {Ms : List Ma} {i : Nat} (hi : i < Ms.length) : ∃ n f L, Ms[i]? = some (n, f, L) := ⟨(Ms[i]).1, (Ms[i]).2.1, (Ms[i]).2.2, List.getElem?_eq_getElem hi⟩
abbrev jnD (nA : Nat) (fA : Nat → Bool) (LA LB : ArL) : ArL := (([] ++ shA 0 LA) ++ shA nA LB) ++ ldA fA 0 nA nA
theorem jn_af {nA nB : Nat} {fA fB : Nat → Bool} {LA LB : ArL} (hA : VM (nA, fA, LA)) (hB : VM (nB, fB, LB)) : DOK (nA + nB) (jnD nA fA LA LB) ∧ Acy upr (jnD nA fA LA LB) ∧ Acy lwr (jnD nA fA LA LB) := by
  obtain ⟨a1, a2, a3, a4, a5, a6, a7⟩ := hA
  obtain ⟨b1, b2, b3, b4, b5, b6, b7⟩ := hB
  have a1 : 1 ≤ nA := a1
  have a2 : nA ≤ 32 := a2
  have b1 : 1 ≤ nB := b1
  have b2 : nB ≤ 32 := b2
  have a5 : DOK nA LA := a5
  have b5 : DOK nB LB := b5
  obtain ⟨ru, ru1, _, ru3⟩ := acy_bd a6 a5
  obtain ⟨rl, rl1, _, rl3⟩ := acy_bd a7 a5
  obtain ⟨su, su1, _, su3⟩ := acy_bd b6 b5
  obtain ⟨sl, sl1, _, sl3⟩ := acy_bd b7 b5
  refine AF.all (n := nA + nB) (ru := fun s => if s < nA then ru s + 33 else su (s - nA)) (rl := fun s => if s < nA then rl s + 33 else sl (s - nA)) (by omega) ?_
  intro q hq
  rcases List.mem_append.mp hq with hq | hq
  · rcases List.mem_append.mp hq with hq | hq
    · rw [List.nil_append] at hq
      refine shA_af (n := nA + nB) a5 (by omega) ?_ ?_ q hq
      · intro x hx h8
        have h1 := (a5 x hx).2.1
        have h2 := (a5 x hx).2.2.1
        have := ru3 x hx h8
        show (if 0 + too x.1 < nA then _ else _) < (if 0 + fr x.1 < nA then _ else _)
        rw [if_pos (by omega), if_pos (by omega), Nat.zero_add, Nat.zero_add]
        omega
      · intro x hx h8
        have h1 := (a5 x hx).2.1
        have h2 := (a5 x hx).2.2.1
        have := rl3 x hx h8
        show (if 0 + too x.1 < nA then _ else _) < (if 0 + fr x.1 < nA then _ else _)
        rw [if_pos (by omega), if_pos (by omega), Nat.zero_add, Nat.zero_add]
        omega
    · refine shA_af (n := nA + nB) b5 (by omega) ?_ ?_ q hq
      · intro x hx h8
        have := su3 x hx h8
        show (if nA + too x.1 < nA then _ else _) < (if nA + fr x.1 < nA then _ else _)
        rw [if_neg (by omega), if_neg (by omega), Nat.add_sub_cancel_left, Nat.add_sub_cancel_left]
        exact this
      · intro x hx h8
        have := sl3 x hx h8
        show (if nA + too x.1 < nA then _ else _) < (if nA + fr x.1 < nA then _ else _)
        rw [if_neg (by omega), if_neg (by omega), Nat.add_sub_cancel_left, Nat.add_sub_cancel_left]
        exact this
  · refine ldA_af (n := nA + nB) (by omega) (by omega) ?_ q hq
    intro s hs _
    have h1 := su1 (nA - nA)
    have h2 := sl1 (nA - nA)
    constructor
    · show (if nA < nA then _ else _) < (if 0 + s < nA then _ else _)
      rw [if_neg (by omega), if_pos (by omega)]
      omega
    · show (if nA < nA then _ else _) < (if 0 + s < nA then _ else _)
      rw [if_neg (by omega), if_pos (by omega)]
      omega
theorem jn_len {nA : Nat} {fA : Nat → Bool} {LA LB : ArL} (h1 : LA.length ≤ 160) (h2 : LB.length ≤ 160) (h3 : nA ≤ 32) : (jnD nA fA LA LB).length ≤ 352 := by
  have := ldA_len fA 0 nA nA
  rw [List.length_append, List.length_append, List.length_append, shA_len, shA_len]
  show 0 + _ + _ + _ ≤ 352
  omega
theorem cl_join {N i j nA nB : Nat} {fA fB : Nat → Bool} {LA LB : ArL} {m : Mem} {Ms : List Ma} {w : List Nat} {ls : Ls} (hN : 40000 < N) (hA : VM (nA, fA, LA)) (hB : VM (nB, fB, LB)) (hl : Ms.length ≤ 24) (hi : i < Ms.length) (hj : j < Ms.length) (hC : InC m Ms w ls) (mA : MC m (200 + 4 * i) nA (eB fA nA) LA) (mB : MC m (200 + 4 * j) nB (eB fB nB) LB) :
    ∃ md, F_X7_join N m (nI i) (nI j) = calx (F_X7_keepDraft N md) (fun r m => some (.inl r, m)) ∧ Off 3 16 m md ∧ DR md (nA + nB) 0 (shE (fun _ => false) fB nA nB) (jnD nA fA LA LB) := by
  obtain ⟨a1, a2, a3, a4, a5, a6, a7⟩ := hA
  obtain ⟨b1, b2, b3, b4, b5, b6, b7⟩ := hB
  have a1 : 1 ≤ nA := a1
  have b1 : 1 ≤ nB := b1
  have a2 : nA ≤ 32 := a2
  have b2 : nB ≤ 32 := b2
  have a3 : LA.length ≤ 160 := a3
  have b3 : LB.length ≤ 160 := b3
  obtain ⟨m2, c1, c2, c3⟩ := dr_begin' (N := N) (n := nA + nB) (st := 0) (m := m) (by omega) (by omega)
  have f2 : Off 3 16 m m2 := c3.wd (by omega) (by omega)
  obtain ⟨m4, d1, d2, d3⟩ := dr_addArcsOf (N := N) (b := 0) (by omega) c2 (by omega) (by omega) (mA.off (by omega) f2).2.2 a5 (by show 0 + nA ≤ _; omega) a3 (by show 0 + _ ≤ _; omega)
  have f4 : Off 3 16 m m4 := f2.tr (d3.wd (by omega) (by omega))
  obtain ⟨m6, e1, e2, e3⟩ := dr_addArcsOf (N := N) (b := nA) (by omega) d2 (by omega) (by omega) (mB.off (by omega) f4).2.2 b5 (by show nA + nB ≤ _; omega) b3 (by rw [List.length_append, shA_len]; show 0 + _ + _ ≤ _; omega)
  have f6 : Off 3 16 m m6 := f4.tr (e3.wd (by omega) (by omega))
  have mA6 := mA.off (by omega) f6
  obtain ⟨m8, g1, g2, g3⟩ := dr_lead (N := N) (b := 0) (t := nA) (by omega) e2 (by omega) (by omega) mA6.1 mA6.2.1 a2 (by omega) (by omega) (by rw [List.length_append, List.length_append, shA_len, shA_len]; show 0 + _ + _ + _ ≤ _; omega)
  have f8 : Off 3 16 m m8 := f6.tr (g3.wd (by omega) (by omega))
  have mB8 := mB.off (by omega) f8
  obtain ⟨m10, k1, k2, k3⟩ := dr_addEndsOf (N := N) (b := nA) (by omega) g2 (by omega) (by omega) mB8.1 mB8.2.1 b2 (by omega)
  have f10 : Off 3 16 m m10 := f8.tr (k3.wd (by omega) (by omega))
  refine ⟨m10, ?_, f10, k2⟩
  have xA := mA.1
  have xB := mB.1
  have xA4 := (mA.off (by omega) f4).1
  have xA6 := mA6.1
  have xA8 := (mA.off (by omega) f8).1
  unfold F_X7_join
  rw [calx_t (need_ok hC hl hi), calx_t (need_ok hC hl hj)]
  simp (disch := omega) only [zi_t, zi_f, bnd_t, zg_in, zx, nI_ltI, nI_leI, nI_eq, nI_add, pk_mul, pk_sub, mup_s, mup_c, mup_j, mrw_c, if_pos, if_neg, zm_1, zm_2, zm_3, zm_4, zm_5, zm_6, zm_7, zm_8, zm_9, zf_0, zf_1, zf_2, zf_3, zf_4, zf_5, zf_6, zf_7, zf_8, zf_9, zf_10, zf_14, zf_15, zf_16, zf_18, zf_19, zf_20, zf_24, zf_30, zf_31, zf_32, zf_33, zf_99, zf_100, zf_160, zf_200, zf_287, zf_288, zf_300, zf_1000, zf_1023, zf_1024, zf_1600, zf_3840, zf_25600, zf_36000, zf_1000000, zf_1000000000, zf_2000000000, zf_11560, za_1, za_2, za_4, za_5, za_6, za_7, za_8, za_9, za_10, za_11, za_12, za_14, za_15, za_22, za_23, za_25, za_26, za_27, za_28, za_29, za_30, za_31, za_32, za_33, za_34, za_35, za_41, za_42, za_43, za_44, za_45, za_46, za_47, za_48, za_49, za_61, za_62, za_63, za_64, za_65, za_70, xA, xB]
  rw [calv_t c1, calv_t d1, xA4, calv_t e1, xA6, calv_t g1, xA8, calv_t k1]
