def drw (d : Nat → Nat → Option Nat) (G : Nat → Option Nat) (k g n : Nat) : ArL := (List.range n).filterMap (fun x => match gb d G k x with | none => none | some h => some (pkA g x x h, 0))
theorem drw_s {d : Nat → Nat → Option Nat} {G : Nat → Option Nat} {k g n : Nat} : drw d G k g (n + 1) = drw d G k g n ++ (match gb d G k n with | none => [] | some h => [(pkA g n n h, 0)]) := by
  unfold drw
  rw [List.range_succ, List.filterMap_append]
  congr 1
  rw [List.filterMap_cons]
  cases gb d G k n <;> rfl
theorem drw_len (d : Nat → Nat → Option Nat) (G : Nat → Option Nat) (k g n : Nat) : (drw d G k g n).length ≤ n := by
  have := List.length_filterMap_le (fun x => match gb d G k x with | none => none | some h => some (pkA g x x h, 0)) (List.range n)
  rw [List.length_range] at this
  exact this
theorem drw_mem {d : Nat → Nat → Option Nat} {G : Nat → Option Nat} {k g n : Nat} {q : Nat × Nat} : q ∈ drw d G k g n ↔ ∃ x h, x < n ∧ gb d G k x = some h ∧ q = (pkA g x x h, 0) := by
  unfold drw
  rw [List.mem_filterMap]
  constructor
  · rintro ⟨x, hx, e⟩
    cases hg : gb d G k x with
    | none => rw [hg] at e; cases e
    | some h => rw [hg] at e; exact ⟨x, h, List.mem_range.mp hx, hg, (Option.some.inj e).symm⟩
  · rintro ⟨x, h, hx, hg, rfl⟩
    exact ⟨x, List.mem_range.mpr hx, by rw [hg]⟩
def drE (wa : Nat → Bool) (mem : Nat → Nat) (g x : Nat) : Bool := decide (x < g) && wa (mem x)
theorem drE_0 (wa : Nat → Bool) (mem : Nat → Nat) : drE wa mem 0 = fun _ => false := by
  funext x
  unfold drE
  rw [decide_eq_false (Nat.not_lt_zero _)]; rfl
theorem drE_s (wa : Nat → Bool) (mem : Nat → Nat) (g : Nat) : drE wa mem (g + 1) = if wa (mem g) = true then (fun x => drE wa mem g x || decide (x = g)) else drE wa mem g := by
  funext x
  unfold drE
  by_cases e : x = g
  · rw [e, decide_eq_true (by omega : g < g + 1)]
    cases h : wa (mem g) with
    | true =>
      rw [if_pos (show true = true from rfl)]
      show true = (drE wa mem g g || decide (g = g))
      rw [decide_eq_true rfl, Bool.or_true]
    | false =>
      rw [if_neg (by simp)]
      show false = (decide (g < g) && wa (mem g))
      rw [decide_eq_false (by omega : ¬ g < g)]; rfl
  · have : decide (x < g + 1) = decide (x < g) := by
      by_cases c : x < g
      · rw [decide_eq_true c, decide_eq_true (by omega : x < g + 1)]
      · rw [decide_eq_false c, decide_eq_false (by omega : ¬ x < g + 1)]
    rw [this]
    split
    · show _ = (decide (x < g) && wa (mem x) || decide (x = g))
      rw [decide_eq_false e, Bool.or_false]
    · rfl
theorem cl_drawGroup {N wn q q' g k F st : Nat} {eA eB' : Int32} {m : Mem} {s : XS} {d : Nat → Nat → Option Nat} {G : Nat → Option Nat} {mem : Nat → Nat} {D : ArL} (hN : 40000 < N) (h : CX m s (8 * s.1.length)) (hl : s.1.length ≤ 200) (hw : CW m wn eA eB') (hwn : wn < 3) (hd : DOf s d) (hq : QQ m q q') (hG : GRow m q s.1.length G) (hGF : ∀ i h, i < s.1.length → G i = some h → h < F) (hF : F ≤ 32) (hg : g < F) (hk : k = mem g) (hkc : k < s.1.length) (h35 : m 35 g = nI k)
    (hD : DR m F st (drE (waf wn eA eB' s.1) mem g) D) (hDl : D.length ≤ 8 * g) :
    ∃ m', F_X5_drawGroup N m (nI g) = some m' ∧ DR m' F st (drE (waf wn eA eB' s.1) mem (g + 1)) (D ++ drw d G k g 8) ∧ Off 3 7 m m' := by
  have hw1 := cl_isWanted' (N := N) hw hwn h hkc hl
  have hinner : ∀ (m1 : Mem) (E : Nat → Bool), DR m1 F st E D → Off 3 7 m m1 → ∃ m', B_X5_drawGroup_20 N m1 (nI g) (nI k) = some m' ∧ DR m' F st E (D ++ drw d G k g 8) ∧ Off 3 7 m m' := by
    intro m1 E hD1 hO1
    unfold B_X5_drawGroup_20
    refine loopF (fun f (m : Mem) x => L_X5_drawGroup_23 N f m (nI g) (nI k) (nI x)) 8 (fun x m' => DR m' F st E (D ++ drw d G k g x) ∧ Off 3 7 m m') (fun o => ∃ m', o = some m' ∧ DR m' F st E (D ++ drw d G k g 8) ∧ Off 3 7 m m') ?_ ?_ N 0 m1 (by omega) ⟨by show DR m1 F st E (D ++ []); rw [List.append_nil]; exact hD1, hO1⟩ (by omega)
    · rintro f x m2 hx ⟨j1, j2⟩
      have hX2 : CX m2 s (8 * s.1.length) := h.off (fun k hk => j2 k (by omega))
      have hq2 : QQ m2 q q' := ⟨by rw [j2 20 (by omega)]; exact hq.1, by rw [j2 20 (by omega)]; exact hq.2.1, hq.2.2⟩
      have hqr : q = 33 ∨ q = 34 := by rcases hq.2.2 with ⟨h, _⟩ | ⟨h, _⟩ <;> omega
      have hG2 : GRow m2 q s.1.length G := fun i hi => by rw [j2 q (by omega)]; exact hG i hi
      have hgb := cl_groupBehind (N := N) hX2 hl hd hq2 hG2 hkc hx
      left
      show ∃ s', _ ∧ S_X5_drawGroup_23 N (L_X5_drawGroup_23 N f) m2 (nI g) (nI k) (nI x) = _
      unfold S_X5_drawGroup_23 B_X5_drawGroup_57
      cases hb : gb d G k x with
      | none =>
        rw [hb] at hgb
        have hgb : F_X5_groupBehind N m2 (nI k) (nI x) = some (nM, m2) := hgb
        refine ⟨m2, ⟨by rw [drw_s, hb]; show DR m2 F st E (D ++ (_ ++ [])); rw [List.append_nil]; exact j1, j2⟩, ?_⟩
        simp (disch := omega) only [zi_t, zi_f, bnd_t, zg_in, zx, nI_ltI, nI_leI, nI_eq, nI_add, pk_mul, pk_sub, mup_s, mup_c, mup_j, mrw_c, if_pos, if_neg, zm_1, zm_2, zm_3, zm_4, zm_5, zm_6, zm_7, zm_8, zm_9, zf_0, zf_1, zf_2, zf_3, zf_4, zf_5, zf_6, zf_7, zf_8, zf_9, zf_10, zf_14, zf_15, zf_16, zf_18, zf_19, zf_20, zf_24, zf_30, zf_31, zf_32, zf_33, zf_99, zf_100, zf_160, zf_200, zf_287, zf_288, zf_300, zf_1000, zf_1023, zf_1024, zf_1600, zf_3840, zf_25600, zf_36000, zf_1000000, zf_1000000000, zf_2000000000, zf_11560, za_1, za_2, za_4, za_5, za_6, za_7, za_8, za_9, za_10, za_11, za_12, za_14, za_15, za_22, za_23, za_25, za_26, za_27, za_28, za_29, za_30, za_31, za_32, za_33, za_34, za_35, za_41, za_42, za_43, za_44, za_45, za_46, za_47, za_48, za_49, za_61, za_62, za_63, za_64, za_65, za_70]
        rw [cal_t hgb]
        simp (disch := omega) only [zi_t, zi_f, bnd_t, zg_in, zx, nI_ltI, nI_leI, nI_eq, nI_add, pk_mul, pk_sub, mup_s, mup_c, mup_j, mrw_c, if_pos, if_neg, zm_1, zm_2, zm_3, zm_4, zm_5, zm_6, zm_7, zm_8, zm_9, zf_0, zf_1, zf_2, zf_3, zf_4, zf_5, zf_6, zf_7, zf_8, zf_9, zf_10, zf_14, zf_15, zf_16, zf_18, zf_19, zf_20, zf_24, zf_30, zf_31, zf_32, zf_33, zf_99, zf_100, zf_160, zf_200, zf_287, zf_288, zf_300, zf_1000, zf_1023, zf_1024, zf_1600, zf_3840, zf_25600, zf_36000, zf_1000000, zf_1000000000, zf_2000000000, zf_11560, za_1, za_2, za_4, za_5, za_6, za_7, za_8, za_9, za_10, za_11, za_12, za_14, za_15, za_22, za_23, za_25, za_26, za_27, za_28, za_29, za_30, za_31, za_32, za_33, za_34, za_35, za_41, za_42, za_43, za_44, za_45, za_46, za_47, za_48, za_49, za_61, za_62, za_63, za_64, za_65, za_70]
      | some y =>
        rw [hb] at hgb
        have hgb : F_X5_groupBehind N m2 (nI k) (nI x) = some (nI y, m2) := hgb
        have hy : y < F := by
          unfold gb at hb
          cases hdx : d k x with
          | none => rw [hdx] at hb; cases hb
          | some z => rw [hdx] at hb; exact hGF z y ((hd k x hkc hx).2 z hdx) hb
        obtain ⟨m3, g1, g2, g3⟩ := dr_addArc (N := N) (s := g) (u := x) (l := x) (t := y) (c := 0) j1 (by omega) (by have := drw_len d G k g x; rw [List.length_append]; omega) hg (by omega) (by omega) hy
        refine ⟨m3, ⟨by rw [drw_s, hb, ← List.append_assoc]; exact g2, j2.tr g3⟩, ?_⟩
        simp (disch := omega) only [zi_t, zi_f, bnd_t, zg_in, zx, nI_ltI, nI_leI, nI_eq, nI_add, pk_mul, pk_sub, mup_s, mup_c, mup_j, mrw_c, if_pos, if_neg, zm_1, zm_2, zm_3, zm_4, zm_5, zm_6, zm_7, zm_8, zm_9, zf_0, zf_1, zf_2, zf_3, zf_4, zf_5, zf_6, zf_7, zf_8, zf_9, zf_10, zf_14, zf_15, zf_16, zf_18, zf_19, zf_20, zf_24, zf_30, zf_31, zf_32, zf_33, zf_99, zf_100, zf_160, zf_200, zf_287, zf_288, zf_300, zf_1000, zf_1023, zf_1024, zf_1600, zf_3840, zf_25600, zf_36000, zf_1000000, zf_1000000000, zf_2000000000, zf_11560, za_1, za_2, za_4, za_5, za_6, za_7, za_8, za_9, za_10, za_11, za_12, za_14, za_15, za_22, za_23, za_25, za_26, za_27, za_28, za_29, za_30, za_31, za_32, za_33, za_34, za_35, za_41, za_42, za_43, za_44, za_45, za_46, za_47, za_48, za_49, za_61, za_62, za_63, za_64, za_65, za_70]
        rw [cal_t hgb]
        simp (disch := omega) only [zi_t, zi_f, bnd_t, zg_in, zx, nI_ltI, nI_leI, nI_eq, nI_add, pk_mul, pk_sub, mup_s, mup_c, mup_j, mrw_c, if_pos, if_neg, zm_1, zm_2, zm_3, zm_4, zm_5, zm_6, zm_7, zm_8, zm_9, zf_0, zf_1, zf_2, zf_3, zf_4, zf_5, zf_6, zf_7, zf_8, zf_9, zf_10, zf_14, zf_15, zf_16, zf_18, zf_19, zf_20, zf_24, zf_30, zf_31, zf_32, zf_33, zf_99, zf_100, zf_160, zf_200, zf_287, zf_288, zf_300, zf_1000, zf_1023, zf_1024, zf_1600, zf_3840, zf_25600, zf_36000, zf_1000000, zf_1000000000, zf_2000000000, zf_11560, za_1, za_2, za_4, za_5, za_6, za_7, za_8, za_9, za_10, za_11, za_12, za_14, za_15, za_22, za_23, za_25, za_26, za_27, za_28, za_29, za_30, za_31, za_32, za_33, za_34, za_35, za_41, za_42, za_43, za_44, za_45, za_46, za_47, za_48, za_49, za_61, za_62, za_63, za_64, za_65, za_70]
        rw [calv_t g1]
    · rintro f m2 ⟨j1, j2⟩
      refine ⟨m2, ?_, j1, j2⟩
      show S_X5_drawGroup_23 N (L_X5_drawGroup_23 N f) m2 (nI g) (nI k) (nI 8) = _
      unfold S_X5_drawGroup_23
      simp (disch := omega) only [zi_t, zi_f, bnd_t, zg_in, zx, nI_ltI, nI_leI, nI_eq, nI_add, pk_mul, pk_sub, mup_s, mup_c, mup_j, mrw_c, if_pos, if_neg, zm_1, zm_2, zm_3, zm_4, zm_5, zm_6, zm_7, zm_8, zm_9, zf_0, zf_1, zf_2, zf_3, zf_4, zf_5, zf_6, zf_7, zf_8, zf_9, zf_10, zf_14, zf_15, zf_16, zf_18, zf_19, zf_20, zf_24, zf_30, zf_31, zf_32, zf_33, zf_99, zf_100, zf_160, zf_200, zf_287, zf_288, zf_300, zf_1000, zf_1023, zf_1024, zf_1600, zf_3840, zf_25600, zf_36000, zf_1000000, zf_1000000000, zf_2000000000, zf_11560, za_1, za_2, za_4, za_5, za_6, za_7, za_8, za_9, za_10, za_11, za_12, za_14, za_15, za_22, za_23, za_25, za_26, za_27, za_28, za_29, za_30, za_31, za_32, za_33, za_34, za_35, za_41, za_42, za_43, za_44, za_45, za_46, za_47, za_48, za_49, za_61, za_62, za_63, za_64, za_65, za_70]
  have hs := drE_s (waf wn eA eB' s.1) mem g
  rw [← hk] at hs
  unfold F_X5_drawGroup
  cases hwk : waf wn eA eB' s.1 k with
  | false =>
    rw [hwk] at hw1
    rw [hwk, if_neg (by simp)] at hs
    obtain ⟨m', g1, g2, g3⟩ := hinner m _ hD Off.rf
    refine ⟨m', ?_, by rw [hs]; exact g2, g3⟩
    simp (disch := omega) only [zi_t, zi_f, bnd_t, zg_in, zx, nI_ltI, nI_leI, nI_eq, nI_add, pk_mul, pk_sub, mup_s, mup_c, mup_j, mrw_c, if_pos, if_neg, zm_1, zm_2, zm_3, zm_4, zm_5, zm_6, zm_7, zm_8, zm_9, zf_0, zf_1, zf_2, zf_3, zf_4, zf_5, zf_6, zf_7, zf_8, zf_9, zf_10, zf_14, zf_15, zf_16, zf_18, zf_19, zf_20, zf_24, zf_30, zf_31, zf_32, zf_33, zf_99, zf_100, zf_160, zf_200, zf_287, zf_288, zf_300, zf_1000, zf_1023, zf_1024, zf_1600, zf_3840, zf_25600, zf_36000, zf_1000000, zf_1000000000, zf_2000000000, zf_11560, za_1, za_2, za_4, za_5, za_6, za_7, za_8, za_9, za_10, za_11, za_12, za_14, za_15, za_22, za_23, za_25, za_26, za_27, za_28, za_29, za_30, za_31, za_32, za_33, za_34, za_35, za_41, za_42, za_43, za_44, za_45, za_46, za_47, za_48, za_49, za_61, za_62, za_63, za_64, za_65, za_70, h35]
    rw [cal_t hw1]
    simp (disch := omega) only [zi_t, zi_f, bnd_t, zg_in, zx, nI_ltI, nI_leI, nI_eq, nI_add, pk_mul, pk_sub, mup_s, mup_c, mup_j, mrw_c, if_pos, if_neg, zm_1, zm_2, zm_3, zm_4, zm_5, zm_6, zm_7, zm_8, zm_9, zf_0, zf_1, zf_2, zf_3, zf_4, zf_5, zf_6, zf_7, zf_8, zf_9, zf_10, zf_14, zf_15, zf_16, zf_18, zf_19, zf_20, zf_24, zf_30, zf_31, zf_32, zf_33, zf_99, zf_100, zf_160, zf_200, zf_287, zf_288, zf_300, zf_1000, zf_1023, zf_1024, zf_1600, zf_3840, zf_25600, zf_36000, zf_1000000, zf_1000000000, zf_2000000000, zf_11560, za_1, za_2, za_4, za_5, za_6, za_7, za_8, za_9, za_10, za_11, za_12, za_14, za_15, za_22, za_23, za_25, za_26, za_27, za_28, za_29, za_30, za_31, za_32, za_33, za_34, za_35, za_41, za_42, za_43, za_44, za_45, za_46, za_47, za_48, za_49, za_61, za_62, za_63, za_64, za_65, za_70, bI_f]
    exact g1
  | true =>
    rw [hwk] at hw1
    rw [hwk, if_pos rfl] at hs
    obtain ⟨m1, k1, k2, k3⟩ := dr_addEnd (N := N) (s := g) hD (by omega) hg
    obtain ⟨m', g1, g2, g3⟩ := hinner m1 _ k2 k3
    refine ⟨m', ?_, by rw [hs]; exact g2, g3⟩
    simp (disch := omega) only [zi_t, zi_f, bnd_t, zg_in, zx, nI_ltI, nI_leI, nI_eq, nI_add, pk_mul, pk_sub, mup_s, mup_c, mup_j, mrw_c, if_pos, if_neg, zm_1, zm_2, zm_3, zm_4, zm_5, zm_6, zm_7, zm_8, zm_9, zf_0, zf_1, zf_2, zf_3, zf_4, zf_5, zf_6, zf_7, zf_8, zf_9, zf_10, zf_14, zf_15, zf_16, zf_18, zf_19, zf_20, zf_24, zf_30, zf_31, zf_32, zf_33, zf_99, zf_100, zf_160, zf_200, zf_287, zf_288, zf_300, zf_1000, zf_1023, zf_1024, zf_1600, zf_3840, zf_25600, zf_36000, zf_1000000, zf_1000000000, zf_2000000000, zf_11560, za_1, za_2, za_4, za_5, za_6, za_7, za_8, za_9, za_10, za_11, za_12, za_14, za_15, za_22, za_23, za_25, za_26, za_27, za_28, za_29, za_30, za_31, za_32, za_33, za_34, za_35, za_41, za_42, za_43, za_44, za_45, za_46, za_47, za_48, za_49, za_61, za_62, za_63, za_64, za_65, za_70, h35]
    rw [cal_t hw1]
    simp (disch := omega) only [zi_t, zi_f, bnd_t, zg_in, zx, nI_ltI, nI_leI, nI_eq, nI_add, pk_mul, pk_sub, mup_s, mup_c, mup_j, mrw_c, if_pos, if_neg, zm_1, zm_2, zm_3, zm_4, zm_5, zm_6, zm_7, zm_8, zm_9, zf_0, zf_1, zf_2, zf_3, zf_4, zf_5, zf_6, zf_7, zf_8, zf_9, zf_10, zf_14, zf_15, zf_16, zf_18, zf_19, zf_20, zf_24, zf_30, zf_31, zf_32, zf_33, zf_99, zf_100, zf_160, zf_200, zf_287, zf_288, zf_300, zf_1000, zf_1023, zf_1024, zf_1600, zf_3840, zf_25600, zf_36000, zf_1000000, zf_1000000000, zf_2000000000, zf_11560, za_1, za_2, za_4, za_5, za_6, za_7, za_8, za_9, za_10, za_11, za_12, za_14, za_15, za_22, za_23, za_25, za_26, za_27, za_28, za_29, za_30, za_31, za_32, za_33, za_34, za_35, za_41, za_42, za_43, za_44, za_45, za_46, za_47, za_48, za_49, za_61, za_62, za_63, za_64, za_65, za_70, bI_t]
    rw [calv_t k1]
    exact g1
def FrW (m m' : Mem) : Prop := ∀ k, k ≠ 20 → (k < 3 ∨ 7 ≤ k) → (k < 32 ∨ 36 ≤ k) → m' k = m k
abbrev drD (d : Nat → Nat → Option Nat) (G : Nat → Option Nat) (mem : Nat → Nat) (F : Nat) : ArL := fmN (fun g => drw d G (mem g) g 8) F
theorem cl_draw {N wn : Nat} {eA eB' : Int32} {m : Mem} {s : XS} {d : Nat → Nat → Option Nat} {wa u : Nat → Bool} (hN : 40000 < N) (h : CX m s (8 * s.1.length)) (hl : s.1.length ≤ 200) (h1 : 1 ≤ s.1.length) (hw : CW m wn eA eB') (hwn : wn < 3) (hd : DOf s d) (hwa : wa = waf wn eA eB' s.1) (hu : UOf d wa s.1.length u) (hq : ∃ q q', QQ m q q') :
    ∃ m', FrW m m' ∧ (∃ q q', QQ m' q q') ∧ ((u 0 = false ∧ F_X5_draw N m = some (nI 1, m') ∧ DR m' 1 0 (fun _ => false) []) ∨
      (u 0 = true ∧ (∃ t, 33 ≤ Fc d wa u s.1.length (t + 1) ∧ ∀ t', t' + 2 ≤ t → Fc d wa u s.1.length (t' + 2) ≠ Fc d wa u s.1.length (t' + 1)) ∧ F_X5_draw N m = some (nI 0, m')) ∨
      (u 0 = true ∧ ∃ t mem g0, Fc d wa u s.1.length (t + 2) = Fc d wa u s.1.length (t + 1) ∧ (∀ t', t' < t → Fc d wa u s.1.length (t' + 2) ≠ Fc d wa u s.1.length (t' + 1)) ∧ Fc d wa u s.1.length (t + 2) ≤ 32 ∧ (∀ g, g < Fc d wa u s.1.length (t + 2) → mem g < s.1.length ∧ nwF (sgC d (Gs d wa u (t + 1))) u (mem g) = true ∧ cnt (nwF (sgC d (Gs d wa u (t + 1))) u) (mem g) = g) ∧ Gs d wa u (t + 2) 0 = some g0 ∧ F_X5_draw N m = some (nI 1, m') ∧ DR m' (Fc d wa u s.1.length (t + 2)) g0 (drE wa mem (Fc d wa u s.1.length (t + 2))) (drD d (Gs d wa u (t + 2)) mem (Fc d wa u s.1.length (t + 2))))) := by
  subst hwa
  obtain ⟨q, q', hq⟩ := hq
  obtain ⟨m2, k1, k2, k3⟩ := cl_markUseful hN h hl h1 hw hwn hd hu
  have hX2 : CX m2 s (8 * s.1.length) := h.off (fun k hk => k3 k (by omega))
  have hw2 : CW m2 wn eA eB' := hw.off (fun k hk => k3 k (by omega))
  have hq2 : QQ m2 q q' := ⟨by rw [k3 20 (by omega)]; exact hq.1, by rw [k3 20 (by omega)]; exact hq.2.1, hq.2.2⟩
  have e32 := k2 0 (by omega)
  unfold F_X5_draw
  rw [calv_t k1]
  cases hu0 : u 0 with
  | false =>
    rw [hu0] at e32
    obtain ⟨m3, g1, g2, g3⟩ := dr_begin' (N := N) (n := 1) (st := 0) (m := m2) (by omega) (by omega)
    refine ⟨m3, fun k a b c => by rw [g3 k (by omega), k3 k (by omega)], ⟨q, q', by rw [g3 20 (by omega)]; exact hq2.1, by rw [g3 20 (by omega)]; exact hq2.2.1, hq.2.2⟩, Or.inl ⟨rfl, ?_, g2⟩⟩
    simp (disch := omega) only [zi_t, zi_f, bnd_t, zg_in, zx, nI_ltI, nI_leI, nI_eq, nI_add, pk_mul, pk_sub, mup_s, mup_c, mup_j, mrw_c, if_pos, if_neg, zm_1, zm_2, zm_3, zm_4, zm_5, zm_6, zm_7, zm_8, zm_9, zf_0, zf_1, zf_2, zf_3, zf_4, zf_5, zf_6, zf_7, zf_8, zf_9, zf_10, zf_14, zf_15, zf_16, zf_18, zf_19, zf_20, zf_24, zf_30, zf_31, zf_32, zf_33, zf_99, zf_100, zf_160, zf_200, zf_287, zf_288, zf_300, zf_1000, zf_1023, zf_1024, zf_1600, zf_3840, zf_25600, zf_36000, zf_1000000, zf_1000000000, zf_2000000000, zf_11560, za_1, za_2, za_4, za_5, za_6, za_7, za_8, za_9, za_10, za_11, za_12, za_14, za_15, za_22, za_23, za_25, za_26, za_27, za_28, za_29, za_30, za_31, za_32, za_33, za_34, za_35, za_41, za_42, za_43, za_44, za_45, za_46, za_47, za_48, za_49, za_61, za_62, za_63, za_64, za_65, za_70, e32, bI_f]
    rw [calv_t g1]
  | true =>
    rw [hu0] at e32
    have hu2 : CRw m2 32 s.1.length u := k2
    obtain ⟨m5, p1, p2⟩ := cl_groupAlike hN hX2 hl h1 hw2 hwn hd hu2 hu0 hq2
    have hfr5 : FrW m m5 := fun k a b c => by rw [p1.1 k a (by omega), k3 k (by omega)]
    rcases p2 with ⟨p2, p3, p4⟩ | ⟨t, q, q', p2, p3, p4, p5, p6, p7, p8⟩
    · refine ⟨m5, hfr5, p4, Or.inr (Or.inl ⟨rfl, p2, ?_⟩)⟩
      simp (disch := omega) only [zi_t, zi_f, bnd_t, zg_in, zx, nI_ltI, nI_leI, nI_eq, nI_add, pk_mul, pk_sub, mup_s, mup_c, mup_j, mrw_c, if_pos, if_neg, zm_1, zm_2, zm_3, zm_4, zm_5, zm_6, zm_7, zm_8, zm_9, zf_0, zf_1, zf_2, zf_3, zf_4, zf_5, zf_6, zf_7, zf_8, zf_9, zf_10, zf_14, zf_15, zf_16, zf_18, zf_19, zf_20, zf_24, zf_30, zf_31, zf_32, zf_33, zf_99, zf_100, zf_160, zf_200, zf_287, zf_288, zf_300, zf_1000, zf_1023, zf_1024, zf_1600, zf_3840, zf_25600, zf_36000, zf_1000000, zf_1000000000, zf_2000000000, zf_11560, za_1, za_2, za_4, za_5, za_6, za_7, za_8, za_9, za_10, za_11, za_12, za_14, za_15, za_22, za_23, za_25, za_26, za_27, za_28, za_29, za_30, za_31, za_32, za_33, za_34, za_35, za_41, za_42, za_43, za_44, za_45, za_46, za_47, za_48, za_49, za_61, za_62, za_63, za_64, za_65, za_70, e32, bI_t]
      rw [cal_t p3]
      simp (disch := omega) only [zi_t, zi_f, bnd_t, zg_in, zx, nI_ltI, nI_leI, nI_eq, nI_add, pk_mul, pk_sub, mup_s, mup_c, mup_j, mrw_c, if_pos, if_neg, zm_1, zm_2, zm_3, zm_4, zm_5, zm_6, zm_7, zm_8, zm_9, zf_0, zf_1, zf_2, zf_3, zf_4, zf_5, zf_6, zf_7, zf_8, zf_9, zf_10, zf_14, zf_15, zf_16, zf_18, zf_19, zf_20, zf_24, zf_30, zf_31, zf_32, zf_33, zf_99, zf_100, zf_160, zf_200, zf_287, zf_288, zf_300, zf_1000, zf_1023, zf_1024, zf_1600, zf_3840, zf_25600, zf_36000, zf_1000000, zf_1000000000, zf_2000000000, zf_11560, za_1, za_2, za_4, za_5, za_6, za_7, za_8, za_9, za_10, za_11, za_12, za_14, za_15, za_22, za_23, za_25, za_26, za_27, za_28, za_29, za_30, za_31, za_32, za_33, za_34, za_35, za_41, za_42, za_43, za_44, za_45, za_46, za_47, za_48, za_49, za_61, za_62, za_63, za_64, za_65, za_70]
    · have hX5 := hX2.fg p1
      have hw5 := hw2.fg p1
      obtain ⟨wa, hwa⟩ : ∃ wa, wa = waf wn eA eB' s.1 := ⟨_, rfl⟩
      rw [← hwa] at p2 p3 p4 p5 p7 p8 ⊢
      obtain ⟨F, hF⟩ : ∃ F, F = Fc d wa u s.1.length (t + 2) := ⟨_, rfl⟩
      rw [← hF] at p4 p5
      obtain ⟨g0, hg0⟩ := Gs_live (d := d) (wa := wa) (t := t + 2) hu0
      have hFd : F = cnt (nwF (sgC d (Gs d wa u (t + 1))) u) s.1.length := hF
      have hGF : ∀ i h, i < s.1.length → Gs d wa u (t + 2) i = some h → h < F := by
        intro i y hi hy
        have hy : (if u i = true then some (nmF (sgC d (Gs d wa u (t + 1))) u i) else none) = some y := hy
        split at hy
        · rename_i ui
          have := nm_ltc (sig := sgC d (Gs d wa u (t + 1))) ui hi
          rw [← Option.some.inj hy, hFd]; exact this
        · cases hy
      have hch : ∀ g, ∃ i, g < F → i < s.1.length ∧ nwF (sgC d (Gs d wa u (t + 1))) u i = true ∧ cnt (nwF (sgC d (Gs d wa u (t + 1))) u) i = g := by
        intro g
        by_cases hg : g < F
        · rw [hFd] at hg
          obtain ⟨i, a, b, c⟩ := cnt_hit hg
          exact ⟨i, fun _ => ⟨a, b, c⟩⟩
        · exact ⟨0, fun h => absurd h hg⟩
      obtain ⟨mem, hmem⟩ := Classical.axiomOfChoice hch
      have hq5 := p6
      have hqr : q = 33 ∨ q = 34 := by rcases p6.2.2 with ⟨h, _⟩ | ⟨h, _⟩ <;> omega
      obtain ⟨kA, lA⟩ := q_knd hqr
      have eg0 : m5 q 0 = nI g0 := by rw [p7 0 (by omega), hg0]; rfl
      obtain ⟨m6, b1, b2, b3⟩ := dr_begin' (N := N) (n := F) (st := g0) (m := m5) (by omega) (by omega)
      have e10 := p6.1
      have key : ∃ m', L_X5_draw_47 N N m6 (nI F) (nI 0) = some (nI 1, m') ∧ DR m' F g0 (drE wa mem F) (drD d (Gs d wa u (t + 2)) mem F) ∧ Off 3 7 m5 m' := by
        refine loopF (fun f (m : Mem) g => L_X5_draw_47 N f m (nI F) (nI g)) F (fun g m' => DR m' F g0 (drE wa mem g) (drD d (Gs d wa u (t + 2)) mem g) ∧ Off 3 7 m5 m') (fun o => ∃ m', o = some (nI 1, m') ∧ DR m' F g0 (drE wa mem F) (drD d (Gs d wa u (t + 2)) mem F) ∧ Off 3 7 m5 m') ?_ ?_ N 0 m6 (Nat.zero_le _) ⟨by rw [drE_0]; exact b2, b3⟩ (by omega)
        · rintro f g m7 hg ⟨j1, j2⟩
          obtain ⟨a1, a2, a3⟩ := hmem g hg
          have hX7 : CX m7 s (8 * s.1.length) := hX5.off (fun k hk => j2 k (by omega))
          have hw7 : CW m7 wn eA eB' := hw5.off (fun k hk => j2 k (by omega))
          have hq7 : QQ m7 q q' := ⟨by rw [j2 20 (by omega)]; exact p6.1, by rw [j2 20 (by omega)]; exact p6.2.1, p6.2.2⟩
          have hG7 : GRow m7 q s.1.length (Gs d wa u (t + 2)) := fun i hi => by rw [j2 q (by omega)]; exact p7 i hi
          have e35 : m7 35 g = nI (mem g) := by rw [j2 35 (by omega), ← a3]; rw [a3]; have := p8 (mem g) a1 a2; rw [a3] at this; exact this
          have hlen := fmN_len (h := fun g => drw d (Gs d wa u (t + 2)) (mem g) g 8) (c := 8) (fun g => drw_len _ _ _ _ _) g
          have j1' : DR m7 F g0 (drE (waf wn eA eB' s.1) mem g) (drD d (Gs d wa u (t + 2)) mem g) := by rw [← hwa]; exact j1
          obtain ⟨m8, c1, c2, c3⟩ := cl_drawGroup (mem := mem) hN hX7 hl hw7 hwn hd hq7 hG7 hGF p4 hg rfl a1 e35 j1' hlen
          rw [← hwa] at c2
          refine Or.inl ⟨m8, ⟨by show DR m8 F g0 _ (fmN (fun g => drw d (Gs d wa u (t + 2)) (mem g) g 8) (g + 1)); rw [fmN_s]; exact c2, j2.tr c3⟩, ?_⟩
          show S_X5_draw_47 N (L_X5_draw_47 N f) m7 (nI F) (nI g) = _
          unfold S_X5_draw_47
          simp (disch := omega) only [zi_t, zi_f, bnd_t, zg_in, zx, nI_ltI, nI_leI, nI_eq, nI_add, pk_mul, pk_sub, mup_s, mup_c, mup_j, mrw_c, if_pos, if_neg, zm_1, zm_2, zm_3, zm_4, zm_5, zm_6, zm_7, zm_8, zm_9, zf_0, zf_1, zf_2, zf_3, zf_4, zf_5, zf_6, zf_7, zf_8, zf_9, zf_10, zf_14, zf_15, zf_16, zf_18, zf_19, zf_20, zf_24, zf_30, zf_31, zf_32, zf_33, zf_99, zf_100, zf_160, zf_200, zf_287, zf_288, zf_300, zf_1000, zf_1023, zf_1024, zf_1600, zf_3840, zf_25600, zf_36000, zf_1000000, zf_1000000000, zf_2000000000, zf_11560, za_1, za_2, za_4, za_5, za_6, za_7, za_8, za_9, za_10, za_11, za_12, za_14, za_15, za_22, za_23, za_25, za_26, za_27, za_28, za_29, za_30, za_31, za_32, za_33, za_34, za_35, za_41, za_42, za_43, za_44, za_45, za_46, za_47, za_48, za_49, za_61, za_62, za_63, za_64, za_65, za_70]
          rw [calv_t c1]
        · rintro f m7 ⟨j1, j2⟩
          refine ⟨m7, ?_, j1, j2⟩
          show S_X5_draw_47 N (L_X5_draw_47 N f) m7 (nI F) (nI F) = _
          unfold S_X5_draw_47
          simp (disch := omega) only [zi_t, zi_f, bnd_t, zg_in, zx, nI_ltI, nI_leI, nI_eq, nI_add, pk_mul, pk_sub, mup_s, mup_c, mup_j, mrw_c, if_pos, if_neg, zm_1, zm_2, zm_3, zm_4, zm_5, zm_6, zm_7, zm_8, zm_9, zf_0, zf_1, zf_2, zf_3, zf_4, zf_5, zf_6, zf_7, zf_8, zf_9, zf_10, zf_14, zf_15, zf_16, zf_18, zf_19, zf_20, zf_24, zf_30, zf_31, zf_32, zf_33, zf_99, zf_100, zf_160, zf_200, zf_287, zf_288, zf_300, zf_1000, zf_1023, zf_1024, zf_1600, zf_3840, zf_25600, zf_36000, zf_1000000, zf_1000000000, zf_2000000000, zf_11560, za_1, za_2, za_4, za_5, za_6, za_7, za_8, za_9, za_10, za_11, za_12, za_14, za_15, za_22, za_23, za_25, za_26, za_27, za_28, za_29, za_30, za_31, za_32, za_33, za_34, za_35, za_41, za_42, za_43, za_44, za_45, za_46, za_47, za_48, za_49, za_61, za_62, za_63, za_64, za_65, za_70]
      obtain ⟨m', r1, r2, r3⟩ := key
      refine ⟨m', fun k a b c => by rw [r3 k (by omega)]; exact hfr5 k a b c, ⟨q, q', by rw [r3 20 (by omega)]; exact p6.1, by rw [r3 20 (by omega)]; exact p6.2.1, p6.2.2⟩, Or.inr (Or.inr ⟨rfl, t, mem, g0, p2, p3, by rw [← hF]; exact p4, by rw [← hF]; exact hmem, hg0, ?_, by rw [← hF]; exact r2⟩)⟩
      simp (disch := omega) only [zi_t, zi_f, bnd_t, zg_in, zx, nI_ltI, nI_leI, nI_eq, nI_add, pk_mul, pk_sub, mup_s, mup_c, mup_j, mrw_c, if_pos, if_neg, zm_1, zm_2, zm_3, zm_4, zm_5, zm_6, zm_7, zm_8, zm_9, zf_0, zf_1, zf_2, zf_3, zf_4, zf_5, zf_6, zf_7, zf_8, zf_9, zf_10, zf_14, zf_15, zf_16, zf_18, zf_19, zf_20, zf_24, zf_30, zf_31, zf_32, zf_33, zf_99, zf_100, zf_160, zf_200, zf_287, zf_288, zf_300, zf_1000, zf_1023, zf_1024, zf_1600, zf_3840, zf_25600, zf_36000, zf_1000000, zf_1000000000, zf_2000000000, zf_11560, za_1, za_2, za_4, za_5, za_6, za_7, za_8, za_9, za_10, za_11, za_12, za_14, za_15, za_22, za_23, za_25, za_26, za_27, za_28, za_29, za_30, za_31, za_32, za_33, za_34, za_35, za_41, za_42, za_43, za_44, za_45, za_46, za_47, za_48, za_49, za_61, za_62, za_63, za_64, za_65, za_70, e32, bI_t]
      rw [cal_t p5]
      simp (disch := omega) only [zi_t, zi_f, bnd_t, zg_in, zx, nI_ltI, nI_leI, nI_eq, nI_add, pk_mul, pk_sub, mup_s, mup_c, mup_j, mrw_c, if_pos, if_neg, zm_1, zm_2, zm_3, zm_4, zm_5, zm_6, zm_7, zm_8, zm_9, zf_0, zf_1, zf_2, zf_3, zf_4, zf_5, zf_6, zf_7, zf_8, zf_9, zf_10, zf_14, zf_15, zf_16, zf_18, zf_19, zf_20, zf_24, zf_30, zf_31, zf_32, zf_33, zf_99, zf_100, zf_160, zf_200, zf_287, zf_288, zf_300, zf_1000, zf_1023, zf_1024, zf_1600, zf_3840, zf_25600, zf_36000, zf_1000000, zf_1000000000, zf_2000000000, zf_11560, za_1, za_2, za_4, za_5, za_6, za_7, za_8, za_9, za_10, za_11, za_12, za_14, za_15, za_22, za_23, za_25, za_26, za_27, za_28, za_29, za_30, za_31, za_32, za_33, za_34, za_35, za_41, za_42, za_43, za_44, za_45, za_46, za_47, za_48, za_49, za_61, za_62, za_63, za_64, za_65, za_70, e10]
      rw [gd_t kA]
      simp (disch := omega) only [zi_t, zi_f, bnd_t, zg_in, zx, nI_ltI, nI_leI, nI_eq, nI_add, pk_mul, pk_sub, mup_s, mup_c, mup_j, mrw_c, if_pos, if_neg, zm_1, zm_2, zm_3, zm_4, zm_5, zm_6, zm_7, zm_8, zm_9, zf_0, zf_1, zf_2, zf_3, zf_4, zf_5, zf_6, zf_7, zf_8, zf_9, zf_10, zf_14, zf_15, zf_16, zf_18, zf_19, zf_20, zf_24, zf_30, zf_31, zf_32, zf_33, zf_99, zf_100, zf_160, zf_200, zf_287, zf_288, zf_300, zf_1000, zf_1023, zf_1024, zf_1600, zf_3840, zf_25600, zf_36000, zf_1000000, zf_1000000000, zf_2000000000, zf_11560, za_1, za_2, za_4, za_5, za_6, za_7, za_8, za_9, za_10, za_11, za_12, za_14, za_15, za_22, za_23, za_25, za_26, za_27, za_28, za_29, za_30, za_31, za_32, za_33, za_34, za_35, za_41, za_42, za_43, za_44, za_45, za_46, za_47, za_48, za_49, za_61, za_62, za_63, za_64, za_65, za_70, lA, eg0]
      rw [calv_t b1]
      exact r1
