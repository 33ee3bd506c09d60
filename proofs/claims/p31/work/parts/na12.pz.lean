abbrev unD (nA nB : Nat) (LA LB : ArL) : ArL := ((([] ++ shA 0 LA) ++ shA nA LB) ++ [(pkA (nA + nB) 8 8 0, 0)]) ++ [(pkA (nA + nB) 8 8 nA, 0)]
theorem un_af {nA nB : Nat} {fA fB : Nat → Bool} {LA LB : ArL} (hA : VM (nA, fA, LA)) (hB : VM (nB, fB, LB)) : DOK (nA + nB + 1) (unD nA nB LA LB) ∧ Acy upr (unD nA nB LA LB) ∧ Acy lwr (unD nA nB LA LB) := by
  obtain ⟨a1, a2, a3, a4, a5, a6, a7⟩ := hA
  obtain ⟨b1, b2, b3, b4, b5, b6, b7⟩ := hB
  have a1 : 1 ≤ nA := a1
  have a2 : nA ≤ 32 := a2
  have b1 : 1 ≤ nB := b1
  have b2 : nB ≤ 32 := b2
  have a5 : DOK nA LA := a5
  have b5 : DOK nB LB := b5
  obtain ⟨ru, ru1, _, ru3⟩ := acy_bd a6 a5
  obtain ⟨rl, rl1, _, rl3⟩ := acy_bd a7 a5
  obtain ⟨su, su1, _, su3⟩ := acy_bd b6 b5
  obtain ⟨sl, sl1, _, sl3⟩ := acy_bd b7 b5
  refine AF.all (n := nA + nB + 1) (ru := fun s => if s < nA then ru s else if s < nA + nB then su (s - nA) else 33) (rl := fun s => if s < nA then rl s else if s < nA + nB then sl (s - nA) else 33) (by omega) ?_
  intro q hq
  rcases List.mem_append.mp hq with hq | hq
  · rcases List.mem_append.mp hq with hq | hq
    · rcases List.mem_append.mp hq with hq | hq
      · rw [List.nil_append] at hq
        refine shA_af (n := nA + nB + 1) a5 (by omega) ?_ ?_ q hq
        · intro x hx h8
          have h1 := (a5 x hx).2.1
          have h2 := (a5 x hx).2.2.1
          have := ru3 x hx h8
          show (if 0 + too x.1 < nA then _ else _) < (if 0 + fr x.1 < nA then _ else _)
          rw [if_pos (by omega), if_pos (by omega), Nat.zero_add, Nat.zero_add]
          exact this
        · intro x hx h8
          have h1 := (a5 x hx).2.1
          have h2 := (a5 x hx).2.2.1
          have := rl3 x hx h8
          show (if 0 + too x.1 < nA then _ else _) < (if 0 + fr x.1 < nA then _ else _)
          rw [if_pos (by omega), if_pos (by omega), Nat.zero_add, Nat.zero_add]
          exact this
      · refine shA_af (n := nA + nB + 1) b5 (by omega) ?_ ?_ q hq
        · intro x hx h8
          have h1 := (b5 x hx).2.1
          have h2 := (b5 x hx).2.2.1
          have := su3 x hx h8
          show (if nA + too x.1 < nA then _ else _) < (if nA + fr x.1 < nA then _ else _)
          rw [if_neg (by omega : ¬ nA + too x.1 < nA), if_neg (by omega : ¬ nA + fr x.1 < nA), if_pos (by omega : nA + too x.1 < nA + nB), if_pos (by omega : nA + fr x.1 < nA + nB), Nat.add_sub_cancel_left, Nat.add_sub_cancel_left]
          exact this
        · intro x hx h8
          have h1 := (b5 x hx).2.1
          have h2 := (b5 x hx).2.2.1
          have := sl3 x hx h8
          show (if nA + too x.1 < nA then _ else _) < (if nA + fr x.1 < nA then _ else _)
          rw [if_neg (by omega : ¬ nA + too x.1 < nA), if_neg (by omega : ¬ nA + fr x.1 < nA), if_pos (by omega : nA + too x.1 < nA + nB), if_pos (by omega : nA + fr x.1 < nA + nB), Nat.add_sub_cancel_left, Nat.add_sub_cancel_left]
          exact this
    · rw [List.mem_singleton] at hq
      have h1 := ru1 0
      have h2 := rl1 0
      refine ⟨nA + nB, 8, 8, 0, 0, hq, by omega, by omega, by omega, by omega, by omega, fun _ => ?_, fun _ => ?_⟩
      · show (if 0 < nA then _ else _) < (if nA + nB < nA then _ else _)
        rw [if_pos (by omega), if_neg (by omega), if_neg (by omega)]; omega
      · show (if 0 < nA then _ else _) < (if nA + nB < nA then _ else _)
        rw [if_pos (by omega), if_neg (by omega), if_neg (by omega)]; omega
  · rw [List.mem_singleton] at hq
    have h1 := su1 (nA - nA)
    have h2 := sl1 (nA - nA)
    refine ⟨nA + nB, 8, 8, nA, 0, hq, by omega, by omega, by omega, by omega, by omega, fun _ => ?_, fun _ => ?_⟩
    · show (if nA < nA then _ else _) < (if nA + nB < nA then _ else _)
      rw [if_neg (by omega : ¬ nA < nA), if_pos (by omega : nA < nA + nB), if_neg (by omega : ¬ nA + nB < nA), if_neg (by omega : ¬ nA + nB < nA + nB)]; omega
    · show (if nA < nA then _ else _) < (if nA + nB < nA then _ else _)
      rw [if_neg (by omega : ¬ nA < nA), if_pos (by omega : nA < nA + nB), if_neg (by omega : ¬ nA + nB < nA), if_neg (by omega : ¬ nA + nB < nA + nB)]; omega
theorem un_len {nA nB : Nat} {LA LB : ArL} (h1 : LA.length ≤ 160) (h2 : LB.length ≤ 160) : (unD nA nB LA LB).length ≤ 352 := by
  rw [List.length_append, List.length_append, List.length_append, List.length_append, shA_len, shA_len]
  show 0 + _ + _ + 1 + 1 ≤ 352
  omega
theorem cl_unite {N i j nA nB : Nat} {fA fB : Nat → Bool} {LA LB : ArL} {m : Mem} {Ms : List Ma} {w : List Nat} {ls : Ls} (hN : 40000 < N) (hA : VM (nA, fA, LA)) (hB : VM (nB, fB, LB)) (hl : Ms.length ≤ 24) (hi : i < Ms.length) (hj : j < Ms.length) (hC : InC m Ms w ls) (mA : MC m (200 + 4 * i) nA (eB fA nA) LA) (mB : MC m (200 + 4 * j) nB (eB fB nB) LB) :
    ∃ md, F_X7_unite N m (nI i) (nI j) = calx (F_X7_keepDraft N md) (fun r m => some (.inl r, m)) ∧ Off 3 16 m md ∧ DR md (nA + nB + 1) (nA + nB) (shE (shE (fun _ => false) fA 0 nA) fB nA nB) (unD nA nB LA LB) := by
  obtain ⟨a1, a2, a3, a4, a5, a6, a7⟩ := hA
  obtain ⟨b1, b2, b3, b4, b5, b6, b7⟩ := hB
  have a1 : 1 ≤ nA := a1
  have b1 : 1 ≤ nB := b1
  have a2 : nA ≤ 32 := a2
  have b2 : nB ≤ 32 := b2
  have a3 : LA.length ≤ 160 := a3
  have b3 : LB.length ≤ 160 := b3
  obtain ⟨m2, c1, c2, c3⟩ := dr_begin' (N := N) (n := nA + nB + 1) (st := nA + nB) (m := m) (by omega) (by omega)
  have f2 : Off 3 16 m m2 := c3.wd (by omega) (by omega)
  obtain ⟨m4, d1, d2, d3⟩ := dr_addArcsOf (N := N) (b := 0) (by omega) c2 (by omega) (by omega) (mA.off (by omega) f2).2.2 a5 (by show 0 + nA ≤ _; omega) a3 (by show 0 + _ ≤ _; omega)
  have f4 : Off 3 16 m m4 := f2.tr (d3.wd (by omega) (by omega))
  obtain ⟨m6, e1, e2, e3⟩ := dr_addArcsOf (N := N) (b := nA) (by omega) d2 (by omega) (by omega) (mB.off (by omega) f4).2.2 b5 (by show nA + nB ≤ _; omega) b3 (by rw [List.length_append, shA_len]; show 0 + _ + _ ≤ _; omega)
  have f6 : Off 3 16 m m6 := f4.tr (e3.wd (by omega) (by omega))
  have mA6 := mA.off (by omega) f6
  obtain ⟨m8, g1, g2, g3⟩ := dr_addEndsOf (N := N) (b := 0) (by omega) e2 (by omega) (by omega) mA6.1 mA6.2.1 a2 (by omega)
  have f8 : Off 3 16 m m8 := f6.tr (g3.wd (by omega) (by omega))
  have mB8 := mB.off (by omega) f8
  obtain ⟨m10, k1, k2, k3⟩ := dr_addEndsOf (N := N) (b := nA) (by omega) g2 (by omega) (by omega) mB8.1 mB8.2.1 b2 (by omega)
  have f10 : Off 3 16 m m10 := f8.tr (k3.wd (by omega) (by omega))
  obtain ⟨m11, p1, p2, p3⟩ := dr_addArc (N := N) (s := nA + nB) (u := 8) (l := 8) (t := 0) (c := 0) k2 (by omega) (by rw [List.length_append, List.length_append, shA_len, shA_len]; show 0 + _ + _ < _; omega) (by omega) (by omega) (by omega) (by omega)
  have f11 : Off 3 16 m m11 := f10.tr (p3.wd (by omega) (by omega))
  obtain ⟨m12, q1, q2, q3⟩ := dr_addArc (N := N) (s := nA + nB) (u := 8) (l := 8) (t := nA) (c := 0) p2 (by omega) (by rw [List.length_append, List.length_append, List.length_append, shA_len, shA_len]; show 0 + _ + _ + 1 < _; omega) (by omega) (by omega) (by omega) (by omega)
  have f12 : Off 3 16 m m12 := f11.tr (q3.wd (by omega) (by omega))
  refine ⟨m12, ?_, f12, q2⟩
  have xA := mA.1
  have xB := mB.1
  have xA4 := (mA.off (by omega) f4).1
  have xA8 := (mA.off (by omega) f8).1
  have xA11 := (mA.off (by omega) f11).1
  unfold F_X7_unite
  rw [calx_t (need_ok hC hl hi), calx_t (need_ok hC hl hj)]
  simp (disch := omega) only [zi_t, zi_f, bnd_t, zg_in, zx, nI_ltI, nI_leI, nI_eq, nI_add, pk_mul, pk_sub, mup_s, mup_c, mup_j, mrw_c, if_pos, if_neg, zm_1, zm_2, zm_3, zm_4, zm_5, zm_6, zm_7, zm_8, zm_9, zf_0, zf_1, zf_2, zf_3, zf_4, zf_5, zf_6, zf_7, zf_8, zf_9, zf_10, zf_14, zf_15, zf_16, zf_18, zf_19, zf_20, zf_24, zf_30, zf_31, zf_32, zf_33, zf_99, zf_100, zf_160, zf_200, zf_287, zf_288, zf_300, zf_1000, zf_1023, zf_1024, zf_1600, zf_3840, zf_25600, zf_36000, zf_1000000, zf_1000000000, zf_2000000000, zf_11560, za_1, za_2, za_4, za_5, za_6, za_7, za_8, za_9, za_10, za_11, za_12, za_14, za_15, za_22, za_23, za_25, za_26, za_27, za_28, za_29, za_30, za_31, za_32, za_33, za_34, za_35, za_41, za_42, za_43, za_44, za_45, za_46, za_47, za_48, za_49, za_61, za_62, za_63, za_64, za_65, za_70, xA, xB]
  rw [calv_t c1, calv_t d1, xA4, calv_t e1, calv_t g1, xA8, calv_t k1, calv_t p1, xA11, calv_t q1]
