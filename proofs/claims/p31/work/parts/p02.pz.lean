
/-! turn, side, compose, rule -/
theorem mk_turn {N i : Nat} (hN : 40000 < N) (Ms : List Ma) (w : List Nat) (ls : Ls) (hV : InV Ms w ls) (hi : i < Ms.length) : MkR (fun _ => True) (fun m => F_X7_turn N m (nI i)) Ms w ls := by
  have v1 := hV.1
  obtain ⟨n, f, L, gA⟩ := ma_get hi
  have vA := hV.2.1 _ (List.mem_of_getElem? gA)
  have a1 : 1 ≤ n := vA.1
  have a2 : n ≤ 32 := vA.2.1
  have a3 : L.length ≤ 160 := vA.2.2.1
  obtain ⟨k1, k2, k3⟩ := tn_af vA
  exact mkr_of (n := n) (st := 0) hN hV (by omega) (by omega) (by rw [List.length_map]; omega) k1 k2 k3 (fun m hC => cl_turn hN vA v1 hi hC (hC.2.1 i _ gA))
theorem mk_side {N i : Nat} {u : Bool} (hN : 40000 < N) (Ms : List Ma) (w : List Nat) (ls : Ls) (hV : InV Ms w ls) (hi : i < Ms.length) : MkR (fun _ => True) (fun m => F_X7_side N m (nI i) (bI u)) Ms w ls := by
  have v1 := hV.1
  obtain ⟨n, f, L, gA⟩ := ma_get hi
  have vA := hV.2.1 _ (List.mem_of_getElem? gA)
  have a1 : 1 ≤ n := vA.1
  have a2 : n ≤ 32 := vA.2.1
  have a3 : L.length ≤ 160 := vA.2.2.1
  obtain ⟨k1, k2, k3⟩ := sd_af (u := u) vA
  exact mkr_of (n := n) (st := 0) hN hV (by omega) (by omega) (by rw [List.length_map]; omega) k1 k2 k3 (fun m hC => cl_side hN vA v1 hi hC (hC.2.1 i _ gA))
theorem mk_compose {N i j : Nat} (hN : 40000 < N) (Ms : List Ma) (w : List Nat) (ls : Ls) (hV : InV Ms w ls) (hi : i < Ms.length) (hj : j < Ms.length) : MkR (fun _ => True) (fun m => F_X7_compose N m (nI i) (nI j)) Ms w ls := by
  have v1 := hV.1
  obtain ⟨nA, fA, LA, gA⟩ := ma_get hi
  obtain ⟨nB, fB, LB, gB⟩ := ma_get hj
  have vA := hV.2.1 _ (List.mem_of_getElem? gA)
  have vB := hV.2.1 _ (List.mem_of_getElem? gB)
  have a1 : 1 ≤ nA := vA.1
  have a2 : nA ≤ 32 := vA.2.1
  have b1 : 1 ≤ nB := vB.1
  have b2 : nB ≤ 32 := vB.2.1
  have a3 : LA.length ≤ 160 := vA.2.2.1
  have b3 : LB.length ≤ 160 := vB.2.2.1
  have a5 : DOK nA LA := vA.2.2.2.2.1
  have b5 : DOK nB LB := vB.2.2.2.2.1
  have hn2 : nA * nB ≤ 1024 := Nat.mul_le_mul a2 b2
  have hn1 : 0 < nA * nB := Nat.mul_pos (by omega) (by omega)
  have hcl : ∀ m, InC m Ms w ls → ∃ m', Off 3 16 m m' ∧ (((∃ a b, a ∈ LA ∧ b ∈ LB ∧ Dear a b) ∧ F_X7_compose N m (nI i) (nI j) = some (.inr 1, m')) ∨ ((∀ a b, a ∈ LA → b ∈ LB → ¬ Dear a b) ∧ F_X7_compose N m (nI i) (nI j) = calx (F_X7_keepDraft N m') (fun r m => some (.inl r, m)) ∧ DR m' (nA * nB) 0 (cpE fA fB nB nA) (cpD nA nB LA LB))) := by
    intro m hC
    have mA : MC m (200 + 4 * i) nA (eB fA nA) LA := hC.2.1 i _ gA
    have mB : MC m (200 + 4 * j) nB (eB fB nB) LB := hC.2.1 j _ gB
    have xA := mA.1
    have xB := mB.1
    obtain ⟨m2, c1, c2, c3⟩ := dr_begin' (N := N) (n := nA * nB) (st := 0) (m := m) (by omega) hn2
    have f2 : Off 3 16 m m2 := c3.wd (by omega) (by omega)
    obtain ⟨m3, d1, d2⟩ := cl_meets hN c2 rfl a2 b2 (by omega) (by omega) (mA.off (by omega) f2) (mB.off (by omega) f2) a5 b5 a3 b3
    have f3 : Off 3 16 m m3 := f2.tr d1
    rcases d2 with ⟨d2, d3⟩ | ⟨d2, d3, d4⟩
    · refine ⟨m3, f3, Or.inl ⟨d2, ?_⟩⟩
      unfold F_X7_compose
      rw [calx_t (need_ok hC v1 hi), calx_t (need_ok hC v1 hj)]
      simp (disch := omega) only [zi_t, zi_f, bnd_t, zg_in, zx, nI_ltI, nI_leI, nI_eq, nI_add, pk_mul, pk_sub, mup_s, mup_c, mup_j, mrw_c, if_pos, if_neg, zm_1, zm_2, zm_3, zm_4, zm_5, zm_6, zm_7, zm_8, zm_9, zf_0, zf_1, zf_2, zf_3, zf_4, zf_5, zf_6, zf_7, zf_8, zf_9, zf_10, zf_14, zf_15, zf_16, zf_18, zf_19, zf_20, zf_24, zf_30, zf_31, zf_32, zf_33, zf_99, zf_100, zf_160, zf_200, zf_287, zf_288, zf_300, zf_1000, zf_1023, zf_1024, zf_1600, zf_3840, zf_25600, zf_36000, zf_1000000, zf_1000000000, zf_2000000000, zf_11560, za_1, za_2, za_4, za_5, za_6, za_7, za_8, za_9, za_10, za_11, za_12, za_14, za_15, za_22, za_23, za_25, za_26, za_27, za_28, za_29, za_30, za_31, za_32, za_33, za_34, za_35, za_41, za_42, za_43, za_44, za_45, za_46, za_47, za_48, za_49, za_61, za_62, za_63, za_64, za_65, za_70, xA, xB]
      rw [calv_t c1, cal_t d3]
      simp (disch := omega) only [zi_t, zi_f, bnd_t, zg_in, zx, nI_ltI, nI_leI, nI_eq, nI_add, pk_mul, pk_sub, mup_s, mup_c, mup_j, mrw_c, if_pos, if_neg, zm_1, zm_2, zm_3, zm_4, zm_5, zm_6, zm_7, zm_8, zm_9, zf_0, zf_1, zf_2, zf_3, zf_4, zf_5, zf_6, zf_7, zf_8, zf_9, zf_10, zf_14, zf_15, zf_16, zf_18, zf_19, zf_20, zf_24, zf_30, zf_31, zf_32, zf_33, zf_99, zf_100, zf_160, zf_200, zf_287, zf_288, zf_300, zf_1000, zf_1023, zf_1024, zf_1600, zf_3840, zf_25600, zf_36000, zf_1000000, zf_1000000000, zf_2000000000, zf_11560, za_1, za_2, za_4, za_5, za_6, za_7, za_8, za_9, za_10, za_11, za_12, za_14, za_15, za_22, za_23, za_25, za_26, za_27, za_28, za_29, za_30, za_31, za_32, za_33, za_34, za_35, za_41, za_42, za_43, za_44, za_45, za_46, za_47, za_48, za_49, za_61, za_62, za_63, za_64, za_65, za_70]
    · have hlen := cp_len (LA := LA) (LB := LB) a2 b2 a3 b3
      have xB3 := (mB.off (by omega) f3).1
      obtain ⟨m4, e1, e2, e3⟩ := cl_moves1 hN d4 rfl a2 b2 (by omega) (mA.off (by omega) f3) a5 a3 (by omega)
      have f4 : Off 3 16 m m4 := f3.tr e3
      have xA4 := (mA.off (by omega) f4).1
      obtain ⟨m5, g1, g2, g3⟩ := cl_moves2 hN e2 rfl a2 b2 (by omega) (mB.off (by omega) f4) b5 b3 (by rw [List.length_append]; omega)
      have f5 : Off 3 16 m m5 := f4.tr g3
      obtain ⟨m6, k1, k2, k3⟩ := cl_bothEnds hN g2 rfl a2 b1 b2 (by omega) (by omega) (mA.off (by omega) f5) (mB.off (by omega) f5)
      refine ⟨m6, f5.tr k3, Or.inr ⟨d2, ?_, k2⟩⟩
      unfold F_X7_compose
      rw [calx_t (need_ok hC v1 hi), calx_t (need_ok hC v1 hj)]
      simp (disch := omega) only [zi_t, zi_f, bnd_t, zg_in, zx, nI_ltI, nI_leI, nI_eq, nI_add, pk_mul, pk_sub, mup_s, mup_c, mup_j, mrw_c, if_pos, if_neg, zm_1, zm_2, zm_3, zm_4, zm_5, zm_6, zm_7, zm_8, zm_9, zf_0, zf_1, zf_2, zf_3, zf_4, zf_5, zf_6, zf_7, zf_8, zf_9, zf_10, zf_14, zf_15, zf_16, zf_18, zf_19, zf_20, zf_24, zf_30, zf_31, zf_32, zf_33, zf_99, zf_100, zf_160, zf_200, zf_287, zf_288, zf_300, zf_1000, zf_1023, zf_1024, zf_1600, zf_3840, zf_25600, zf_36000, zf_1000000, zf_1000000000, zf_2000000000, zf_11560, za_1, za_2, za_4, za_5, za_6, za_7, za_8, za_9, za_10, za_11, za_12, za_14, za_15, za_22, za_23, za_25, za_26, za_27, za_28, za_29, za_30, za_31, za_32, za_33, za_34, za_35, za_41, za_42, za_43, za_44, za_45, za_46, za_47, za_48, za_49, za_61, za_62, za_63, za_64, za_65, za_70, xA, xB]
      rw [calv_t c1, cal_t d3]
      simp (disch := omega) only [zi_t, zi_f, bnd_t, zg_in, zx, nI_ltI, nI_leI, nI_eq, nI_add, pk_mul, pk_sub, mup_s, mup_c, mup_j, mrw_c, if_pos, if_neg, zm_1, zm_2, zm_3, zm_4, zm_5, zm_6, zm_7, zm_8, zm_9, zf_0, zf_1, zf_2, zf_3, zf_4, zf_5, zf_6, zf_7, zf_8, zf_9, zf_10, zf_14, zf_15, zf_16, zf_18, zf_19, zf_20, zf_24, zf_30, zf_31, zf_32, zf_33, zf_99, zf_100, zf_160, zf_200, zf_287, zf_288, zf_300, zf_1000, zf_1023, zf_1024, zf_1600, zf_3840, zf_25600, zf_36000, zf_1000000, zf_1000000000, zf_2000000000, zf_11560, za_1, za_2, za_4, za_5, za_6, za_7, za_8, za_9, za_10, za_11, za_12, za_14, za_15, za_22, za_23, za_25, za_26, za_27, za_28, za_29, za_30, za_31, za_32, za_33, za_34, za_35, za_41, za_42, za_43, za_44, za_45, za_46, za_47, za_48, za_49, za_61, za_62, za_63, za_64, za_65, za_70]
      rw [xB3, calv_t e1, xA4, calv_t g1, calv_t k1]
  by_cases hdear : ∃ a b, a ∈ LA ∧ b ∈ LB ∧ Dear a b
  · refine mkr_no (fun m hC => ?_)
    obtain ⟨m1, h1, h2⟩ := hcl m hC
    rcases h2 with ⟨_, h3⟩ | ⟨h3, _⟩
    · exact ⟨m1, h3, hC.cg (fun k hk => h1 k (by omega)), fun k k1 k2 => h1 k (by omega)⟩
    · obtain ⟨a, b, ha, hb, hd⟩ := hdear
      exact absurd hd (h3 a b ha hb)
  · have hnd : ∀ a b, a ∈ LA → b ∈ LB → ¬ Dear a b := fun a b ha hb hd => hdear ⟨a, b, ha, hb, hd⟩
    obtain ⟨k1, k2, k3⟩ := cp_af vA vB hnd
    have hlen := cp_len (nA := nA) (nB := nB) (LA := LA) (LB := LB) a2 b2 a3 b3
    refine mkr_of (n := nA * nB) (st := 0) (E := cpE fA fB nB nA) hN hV hn1 hn2 (by rw [List.length_append, List.length_append]; omega) k1 k2 k3 (fun m hC => ?_)
    obtain ⟨m1, h1, h2⟩ := hcl m hC
    rcases h2 with ⟨h3, _⟩ | ⟨_, h3, h4⟩
    · exact absurd h3 hdear
    · exact ⟨m1, h3, h1, h4⟩
/-- a rule, as it is drawn -/
def RuM (f t : Nat) (l r : Option Nat) (M : Ma) : Prop := Made 6 (thS (decide (l = none))) (rlE 3) (ruD f t l r false) (some M)
theorem mk_rule {N f t : Nat} {l r : Option Nat} (hN : 40000 < N) (Ms : List Ma) (w : List Nat) (ls : Ls) (hV : InV Ms w ls) (hf : f < 8) (ht : t < 9) (hl : anOK l) (hr : anOK r) :
    ∃ oM : Option Ma, (∀ M, oM = some M → Ms.length < 24 ∧ VM M ∧ MdM M ∧ RuM f t l r M) ∧ (∀ m, InC m Ms w ls → CR (F_X7_rule N m (nI f) (nI t) (an l) (an r) (nI 0)) m (rsC Ms.length oM) (Ms ++ oM.toList) w ls) ∧ (oM = none → Ms.length = 24 ∨ (t = 8 ∧ lpF l f = true ∧ (r = none ∨ r = some f))) := by
  by_cases hround : t = 8 ∧ lpF l f = true ∧ (r = none ∨ r = some f)
  · obtain ⟨o, h1, h2⟩ := mkr_no' (P := RuM f t l r) (c := fun m => F_X7_rule N m (nI f) (nI t) (an l) (an r) (bI false)) (Ms := Ms) (w := w) (ls := ls) (fun m hC => cl_rule_round hf ht hl hr hround)
    exact ⟨o, h1, h2, fun _ => Or.inr hround⟩
  · obtain ⟨k1, k2, k3⟩ := ru_af (l := l) (r := r) (u := false) hf ht hround
    have hl1 := ruD_len f t l r false
    have hT := thS_le (decide (l = none))
    obtain ⟨o, h0, h1, h2⟩ := mk_of (c := fun m => F_X7_rule N m (nI f) (nI t) (an l) (an r) (bI false)) (n := 6) (st := thS (decide (l = none))) (E := rlE 3) (D := ruD f t l r false) hN hV (by omega) (by omega) (by omega) k1 k2 k3 (fun m hC => cl_rule (u := false) hN hf ht hl hr hround)
    refine ⟨o, h1, h2, fun ho => Or.inl ?_⟩
    subst ho
    by_cases h24 : Ms.length < 24
    · rw [if_pos h24] at h0
      exact (made_small (by omega) (by omega) h0).elim
    · have := hV.1
      omega
/-! what is asked of machines -/
theorem as_size {N i n : Nat} {f : Nat → Bool} {L : ArL} {m : Mem} {Ms : List Ma} {w : List Nat} {ls : Ls} (hV : InV Ms w ls) (hC : InC m Ms w ls) (gA : Ms[i]? = some (n, f, L)) : F_X7_size N m (nI i) = some (.inl (nI (1000 * n + L.length)), m) := by
  have v1 := hV.1
  have hi := (List.getElem?_eq_some_iff.mp gA).1
  have vA := hV.2.1 _ (List.mem_of_getElem? gA)
  have a2 : n ≤ 32 := vA.2.1
  have a3 : L.length ≤ 160 := vA.2.2.1
  have mA : MC m (200 + 4 * i) n (eB f n) L := hC.2.1 i _ gA
  have e1 := mA.1
  have e2 := mA.2.2.1
  unfold F_X7_size
  rw [calx_t (need_ok hC v1 hi)]
  simp (disch := omega) only [zi_t, zi_f, bnd_t, zg_in, zx, nI_ltI, nI_leI, nI_eq, nI_add, pk_mul, pk_sub, mup_s, mup_c, mup_j, mrw_c, if_pos, if_neg, zm_1, zm_2, zm_3, zm_4, zm_5, zm_6, zm_7, zm_8, zm_9, zf_0, zf_1, zf_2, zf_3, zf_4, zf_5, zf_6, zf_7, zf_8, zf_9, zf_10, zf_14, zf_15, zf_16, zf_18, zf_19, zf_20, zf_24, zf_30, zf_31, zf_32, zf_33, zf_99, zf_100, zf_160, zf_200, zf_287, zf_288, zf_300, zf_1000, zf_1023, zf_1024, zf_1600, zf_3840, zf_25600, zf_36000, zf_1000000, zf_1000000000, zf_2000000000, zf_11560, za_1, za_2, za_4, za_5, za_6, za_7, za_8, za_9, za_10, za_11, za_12, za_14, za_15, za_22, za_23, za_25, za_26, za_27, za_28, za_29, za_30, za_31, za_32, za_33, za_34, za_35, za_41, za_42, za_43, za_44, za_45, za_46, za_47, za_48, za_49, za_61, za_62, za_63, za_64, za_65, za_70, e1, e2]
theorem as_isEnd {N i n s : Nat} {f : Nat → Bool} {L : ArL} {m : Mem} {Ms : List Ma} {w : List Nat} {ls : Ls} (hV : InV Ms w ls) (hC : InC m Ms w ls) (gA : Ms[i]? = some (n, f, L)) (hs : s < n) : F_X7_isEnd N m (nI i) (nI s) = some (.inl (bI (f s)), m) := by
  have v1 := hV.1
  have hi := (List.getElem?_eq_some_iff.mp gA).1
  have vA := hV.2.1 _ (List.mem_of_getElem? gA)
  have a2 : n ≤ 32 := vA.2.1
  have mA : MC m (200 + 4 * i) n (eB f n) L := hC.2.1 i _ gA
  have e1 := mA.1
  have e2 := mA.2.1
  have e4 := holds_t (x := eB f n) (s := s) (by omega)
  rw [tb_eBin a2 hs] at e4
  unfold F_X7_isEnd
  rw [calx_t (need_ok hC v1 hi)]
  simp (disch := omega) only [zi_t, zi_f, bnd_t, zg_in, zx, nI_ltI, nI_leI, nI_eq, nI_add, pk_mul, pk_sub, mup_s, mup_c, mup_j, mrw_c, if_pos, if_neg, zm_1, zm_2, zm_3, zm_4, zm_5, zm_6, zm_7, zm_8, zm_9, zf_0, zf_1, zf_2, zf_3, zf_4, zf_5, zf_6, zf_7, zf_8, zf_9, zf_10, zf_14, zf_15, zf_16, zf_18, zf_19, zf_20, zf_24, zf_30, zf_31, zf_32, zf_33, zf_99, zf_100, zf_160, zf_200, zf_287, zf_288, zf_300, zf_1000, zf_1023, zf_1024, zf_1600, zf_3840, zf_25600, zf_36000, zf_1000000, zf_1000000000, zf_2000000000, zf_11560, za_1, za_2, za_4, za_5, za_6, za_7, za_8, za_9, za_10, za_11, za_12, za_14, za_15, za_22, za_23, za_25, za_26, za_27, za_28, za_29, za_30, za_31, za_32, za_33, za_34, za_35, za_41, za_42, za_43, za_44, za_45, za_46, za_47, za_48, za_49, za_61, za_62, za_63, za_64, za_65, za_70, e1, e2, e4]
  rw [gd_t (bI_isb' _)]
theorem as_arc {N i n j k : Nat} {f : Nat → Bool} {L : ArL} {q : Nat × Nat} {m : Mem} {Ms : List Ma} {w : List Nat} {ls : Ls} (hV : InV Ms w ls) (hC : InC m Ms w ls) (gA : Ms[i]? = some (n, f, L)) (hq : L[j]? = some q) (hk : k < 5) : F_X7_arc N m (nI i) (nI j) (nI k) = some (.inl (nI (if k = 0 then fr q.1 else if k = 1 then upr q.1 else if k = 2 then lwr q.1 else if k = 3 then q.2 else too q.1)), m) := by
  have v1 := hV.1
  have hi := (List.getElem?_eq_some_iff.mp gA).1
  have hj := (List.getElem?_eq_some_iff.mp hq).1
  have vA := hV.2.1 _ (List.mem_of_getElem? gA)
  have a2 : n ≤ 32 := vA.2.1
  have a3 : L.length ≤ 160 := vA.2.2.1
  have a5 : DOK n L := vA.2.2.2.2.1
  have hq1 := (a5 q (List.mem_of_getElem? hq)).1
  have mA : MC m (200 + 4 * i) n (eB f n) L := hC.2.1 i _ gA
  have e2 := mA.2.2.1
  have e3 := (mA.2.2.2 j q hq).1
  have e4 := (mA.2.2.2 j q hq).2
  unfold F_X7_arc
  rw [calx_t (need_ok hC v1 hi)]
  have : k = 0 ∨ k = 1 ∨ k = 2 ∨ k = 3 ∨ k = 4 := by omega
  rcases this with rfl | rfl | rfl | rfl | rfl <;> simp (disch := omega) only [zi_t, zi_f, bnd_t, zg_in, zx, nI_ltI, nI_leI, nI_eq, nI_add, pk_mul, pk_sub, mup_s, mup_c, mup_j, mrw_c, if_pos, if_neg, zm_1, zm_2, zm_3, zm_4, zm_5, zm_6, zm_7, zm_8, zm_9, zf_0, zf_1, zf_2, zf_3, zf_4, zf_5, zf_6, zf_7, zf_8, zf_9, zf_10, zf_14, zf_15, zf_16, zf_18, zf_19, zf_20, zf_24, zf_30, zf_31, zf_32, zf_33, zf_99, zf_100, zf_160, zf_200, zf_287, zf_288, zf_300, zf_1000, zf_1023, zf_1024, zf_1600, zf_3840, zf_25600, zf_36000, zf_1000000, zf_1000000000, zf_2000000000, zf_11560, za_1, za_2, za_4, za_5, za_6, za_7, za_8, za_9, za_10, za_11, za_12, za_14, za_15, za_22, za_23, za_25, za_26, za_27, za_28, za_29, za_30, za_31, za_32, za_33, za_34, za_35, za_41, za_42, za_43, za_44, za_45, za_46, za_47, za_48, za_49, za_61, za_62, za_63, za_64, za_65, za_70, e2, e3, e4, alen_hi, pk_from, pk_to, pk_upper, pk_lower]
theorem as_ruled {N f t p : Nat} {l r : Option Nat} {m : Mem} {Ms : List Ma} {w : List Nat} {ls : Ls} (hN : 40000 < N) (hV : InV Ms w ls) (hC : InC m Ms w ls) (hf : f < 8) (ht : t < 9) (hl : anOK l) (hr : anOK r) (hp : p < 2 ^ 31) : F_X7_ruled N m (nI f) (nI t) (an l) (an r) (nI p) = some (.inl (nI (rdA (rdG w f t l r) p w.length 0)), m) := by
  unfold F_X7_ruled
  rw [calx_t (plc_ok hp), calx_t (rule_ok hf ht hl hr)]
  exact cl_ruled hN hC.2.2.1 hC.2.2.2.1 hV.2.2.1 hV.2.2.2.1 hf ht hl hr hp
theorem as_type {N a : Nat} {m : Mem} {Ms : List Ma} {w : List Nat} {ls : Ls} (hC : InC m Ms w ls) (ha : a < 8) (hw : w.length < 8) : CR (F_X7_type N m (nI a)) m (.inl (nI (w.length + 1))) Ms (w ++ [a]) ls := by
  have e3 := hC.2.2.1
  refine ⟨mup (mup m 1 w.length (nI a)) 0 1 (nI (w.length + 1)), ?_, ?_, ?_⟩
  · unfold F_X7_type
    simp (disch := omega) only [zi_t, zi_f, bnd_t, zg_in, zx, nI_ltI, nI_leI, nI_eq, nI_add, pk_mul, pk_sub, mup_s, mup_c, mup_j, mrw_c, if_pos, if_neg, zm_1, zm_2, zm_3, zm_4, zm_5, zm_6, zm_7, zm_8, zm_9, zf_0, zf_1, zf_2, zf_3, zf_4, zf_5, zf_6, zf_7, zf_8, zf_9, zf_10, zf_14, zf_15, zf_16, zf_18, zf_19, zf_20, zf_24, zf_30, zf_31, zf_32, zf_33, zf_99, zf_100, zf_160, zf_200, zf_287, zf_288, zf_300, zf_1000, zf_1023, zf_1024, zf_1600, zf_3840, zf_25600, zf_36000, zf_1000000, zf_1000000000, zf_2000000000, zf_11560, za_1, za_2, za_4, za_5, za_6, za_7, za_8, za_9, za_10, za_11, za_12, za_14, za_15, za_22, za_23, za_25, za_26, za_27, za_28, za_29, za_30, za_31, za_32, za_33, za_34, za_35, za_41, za_42, za_43, za_44, za_45, za_46, za_47, za_48, za_49, za_61, za_62, za_63, za_64, za_65, za_70, let_ok, e3]
  · obtain ⟨h1, h2, h3, h4, h5, h6, h7⟩ := hC
    refine ⟨by simp (disch := omega) only [zi_t, zi_f, bnd_t, zg_in, zx, nI_ltI, nI_leI, nI_eq, nI_add, pk_mul, pk_sub, mup_s, mup_c, mup_j, mrw_c, if_pos, if_neg, zm_1, zm_2, zm_3, zm_4, zm_5, zm_6, zm_7, zm_8, zm_9, zf_0, zf_1, zf_2, zf_3, zf_4, zf_5, zf_6, zf_7, zf_8, zf_9, zf_10, zf_14, zf_15, zf_16, zf_18, zf_19, zf_20, zf_24, zf_30, zf_31, zf_32, zf_33, zf_99, zf_100, zf_160, zf_200, zf_287, zf_288, zf_300, zf_1000, zf_1023, zf_1024, zf_1600, zf_3840, zf_25600, zf_36000, zf_1000000, zf_1000000000, zf_2000000000, zf_11560, za_1, za_2, za_4, za_5, za_6, za_7, za_8, za_9, za_10, za_11, za_12, za_14, za_15, za_22, za_23, za_25, za_26, za_27, za_28, za_29, za_30, za_31, za_32, za_33, za_34, za_35, za_41, za_42, za_43, za_44, za_45, za_46, za_47, za_48, za_49, za_61, za_62, za_63, za_64, za_65, za_70, h1], fun i M hM => (h2 i M hM).cg (by rw [mup_r (by omega), mup_r (by omega)]) (by rw [mup_r (by omega), mup_r (by omega)]) (by rw [mup_r (by omega), mup_r (by omega)]) (by rw [mup_r (by omega), mup_r (by omega)]), by rw [mup_s, List.length_append]; rfl, fun j y hy => ?_, by simp (disch := omega) only [zi_t, zi_f, bnd_t, zg_in, zx, nI_ltI, nI_leI, nI_eq, nI_add, pk_mul, pk_sub, mup_s, mup_c, mup_j, mrw_c, if_pos, if_neg, zm_1, zm_2, zm_3, zm_4, zm_5, zm_6, zm_7, zm_8, zm_9, zf_0, zf_1, zf_2, zf_3, zf_4, zf_5, zf_6, zf_7, zf_8, zf_9, zf_10, zf_14, zf_15, zf_16, zf_18, zf_19, zf_20, zf_24, zf_30, zf_31, zf_32, zf_33, zf_99, zf_100, zf_160, zf_200, zf_287, zf_288, zf_300, zf_1000, zf_1023, zf_1024, zf_1600, zf_3840, zf_25600, zf_36000, zf_1000000, zf_1000000000, zf_2000000000, zf_11560, za_1, za_2, za_4, za_5, za_6, za_7, za_8, za_9, za_10, za_11, za_12, za_14, za_15, za_22, za_23, za_25, za_26, za_27, za_28, za_29, za_30, za_31, za_32, za_33, za_34, za_35, za_41, za_42, za_43, za_44, za_45, za_46, za_47, za_48, za_49, za_61, za_62, za_63, za_64, za_65, za_70, h5], fun i p hp => ?_, by rw [mup_c (by omega), mup_c (by omega), mup_c (by omega), mup_c (by omega)]; exact h7⟩
    · rcases snoc_last hy with hy | ⟨rfl, rfl⟩
      · have hj := (List.getElem?_eq_some_iff.mp hy).1
        simp (disch := omega) only [zi_t, zi_f, bnd_t, zg_in, zx, nI_ltI, nI_leI, nI_eq, nI_add, pk_mul, pk_sub, mup_s, mup_c, mup_j, mrw_c, if_pos, if_neg, zm_1, zm_2, zm_3, zm_4, zm_5, zm_6, zm_7, zm_8, zm_9, zf_0, zf_1, zf_2, zf_3, zf_4, zf_5, zf_6, zf_7, zf_8, zf_9, zf_10, zf_14, zf_15, zf_16, zf_18, zf_19, zf_20, zf_24, zf_30, zf_31, zf_32, zf_33, zf_99, zf_100, zf_160, zf_200, zf_287, zf_288, zf_300, zf_1000, zf_1023, zf_1024, zf_1600, zf_3840, zf_25600, zf_36000, zf_1000000, zf_1000000000, zf_2000000000, zf_11560, za_1, za_2, za_4, za_5, za_6, za_7, za_8, za_9, za_10, za_11, za_12, za_14, za_15, za_22, za_23, za_25, za_26, za_27, za_28, za_29, za_30, za_31, za_32, za_33, za_34, za_35, za_41, za_42, za_43, za_44, za_45, za_46, za_47, za_48, za_49, za_61, za_62, za_63, za_64, za_65, za_70, h4 j y hy]
      · simp (disch := omega) only [zi_t, zi_f, bnd_t, zg_in, zx, nI_ltI, nI_leI, nI_eq, nI_add, pk_mul, pk_sub, mup_s, mup_c, mup_j, mrw_c, if_pos, if_neg, zm_1, zm_2, zm_3, zm_4, zm_5, zm_6, zm_7, zm_8, zm_9, zf_0, zf_1, zf_2, zf_3, zf_4, zf_5, zf_6, zf_7, zf_8, zf_9, zf_10, zf_14, zf_15, zf_16, zf_18, zf_19, zf_20, zf_24, zf_30, zf_31, zf_32, zf_33, zf_99, zf_100, zf_160, zf_200, zf_287, zf_288, zf_300, zf_1000, zf_1023, zf_1024, zf_1600, zf_3840, zf_25600, zf_36000, zf_1000000, zf_1000000000, zf_2000000000, zf_11560, za_1, za_2, za_4, za_5, za_6, za_7, za_8, za_9, za_10, za_11, za_12, za_14, za_15, za_22, za_23, za_25, za_26, za_27, za_28, za_29, za_30, za_31, za_32, za_33, za_34, za_35, za_41, za_42, za_43, za_44, za_45, za_46, za_47, za_48, za_49, za_61, za_62, za_63, za_64, za_65, za_70]
    · obtain ⟨b1, b2, b3⟩ := h6 i p hp
      exact ⟨by simp (disch := omega) only [zi_t, zi_f, bnd_t, zg_in, zx, nI_ltI, nI_leI, nI_eq, nI_add, pk_mul, pk_sub, mup_s, mup_c, mup_j, mrw_c, if_pos, if_neg, zm_1, zm_2, zm_3, zm_4, zm_5, zm_6, zm_7, zm_8, zm_9, zf_0, zf_1, zf_2, zf_3, zf_4, zf_5, zf_6, zf_7, zf_8, zf_9, zf_10, zf_14, zf_15, zf_16, zf_18, zf_19, zf_20, zf_24, zf_30, zf_31, zf_32, zf_33, zf_99, zf_100, zf_160, zf_200, zf_287, zf_288, zf_300, zf_1000, zf_1023, zf_1024, zf_1600, zf_3840, zf_25600, zf_36000, zf_1000000, zf_1000000000, zf_2000000000, zf_11560, za_1, za_2, za_4, za_5, za_6, za_7, za_8, za_9, za_10, za_11, za_12, za_14, za_15, za_22, za_23, za_25, za_26, za_27, za_28, za_29, za_30, za_31, za_32, za_33, za_34, za_35, za_41, za_42, za_43, za_44, za_45, za_46, za_47, za_48, za_49, za_61, za_62, za_63, za_64, za_65, za_70, b1], by simp (disch := omega) only [zi_t, zi_f, bnd_t, zg_in, zx, nI_ltI, nI_leI, nI_eq, nI_add, pk_mul, pk_sub, mup_s, mup_c, mup_j, mrw_c, if_pos, if_neg, zm_1, zm_2, zm_3, zm_4, zm_5, zm_6, zm_7, zm_8, zm_9, zf_0, zf_1, zf_2, zf_3, zf_4, zf_5, zf_6, zf_7, zf_8, zf_9, zf_10, zf_14, zf_15, zf_16, zf_18, zf_19, zf_20, zf_24, zf_30, zf_31, zf_32, zf_33, zf_99, zf_100, zf_160, zf_200, zf_287, zf_288, zf_300, zf_1000, zf_1023, zf_1024, zf_1600, zf_3840, zf_25600, zf_36000, zf_1000000, zf_1000000000, zf_2000000000, zf_11560, za_1, za_2, za_4, za_5, za_6, za_7, za_8, za_9, za_10, za_11, za_12, za_14, za_15, za_22, za_23, za_25, za_26, za_27, za_28, za_29, za_30, za_31, za_32, za_33, za_34, za_35, za_41, za_42, za_43, za_44, za_45, za_46, za_47, za_48, za_49, za_61, za_62, za_63, za_64, za_65, za_70, b2], fun j y hy => by simp (disch := omega) only [zi_t, zi_f, bnd_t, zg_in, zx, nI_ltI, nI_leI, nI_eq, nI_add, pk_mul, pk_sub, mup_s, mup_c, mup_j, mrw_c, if_pos, if_neg, zm_1, zm_2, zm_3, zm_4, zm_5, zm_6, zm_7, zm_8, zm_9, zf_0, zf_1, zf_2, zf_3, zf_4, zf_5, zf_6, zf_7, zf_8, zf_9, zf_10, zf_14, zf_15, zf_16, zf_18, zf_19, zf_20, zf_24, zf_30, zf_31, zf_32, zf_33, zf_99, zf_100, zf_160, zf_200, zf_287, zf_288, zf_300, zf_1000, zf_1023, zf_1024, zf_1600, zf_3840, zf_25600, zf_36000, zf_1000000, zf_1000000000, zf_2000000000, zf_11560, za_1, za_2, za_4, za_5, za_6, za_7, za_8, za_9, za_10, za_11, za_12, za_14, za_15, za_22, za_23, za_25, za_26, za_27, za_28, za_29, za_30, za_31, za_32, za_33, za_34, za_35, za_41, za_42, za_43, za_44, za_45, za_46, za_47, za_48, za_49, za_61, za_62, za_63, za_64, za_65, za_70, b3 j y hy]⟩
  · intro k k1 k2
    rw [mup_r (by omega), mup_r (by omega)]
theorem as_typeF {N a : Nat} {m : Mem} {Ms : List Ma} {w : List Nat} {ls : Ls} (hC : InC m Ms w ls) (ha : a < 8) (hw : w.length = 8) : F_X7_type N m (nI a) = some (.inr 1, m) := by
  have e3 := hC.2.2.1
  unfold F_X7_type
  simp (disch := omega) only [zi_t, zi_f, bnd_t, zg_in, zx, nI_ltI, nI_leI, nI_eq, nI_add, pk_mul, pk_sub, mup_s, mup_c, mup_j, mrw_c, if_pos, if_neg, zm_1, zm_2, zm_3, zm_4, zm_5, zm_6, zm_7, zm_8, zm_9, zf_0, zf_1, zf_2, zf_3, zf_4, zf_5, zf_6, zf_7, zf_8, zf_9, zf_10, zf_14, zf_15, zf_16, zf_18, zf_19, zf_20, zf_24, zf_30, zf_31, zf_32, zf_33, zf_99, zf_100, zf_160, zf_200, zf_287, zf_288, zf_300, zf_1000, zf_1023, zf_1024, zf_1600, zf_3840, zf_25600, zf_36000, zf_1000000, zf_1000000000, zf_2000000000, zf_11560, za_1, za_2, za_4, za_5, za_6, za_7, za_8, za_9, za_10, za_11, za_12, za_14, za_15, za_22, za_23, za_25, za_26, za_27, za_28, za_29, za_30, za_31, za_32, za_33, za_34, za_35, za_41, za_42, za_43, za_44, za_45, za_46, za_47, za_48, za_49, za_61, za_62, za_63, za_64, za_65, za_70, let_ok, e3]
theorem as_clear {N : Nat} {m : Mem} {Ms : List Ma} {w : List Nat} {ls : Ls} (hC : InC m Ms w ls) : ∃ m1, F_X7_clear N m = some (nI w.length, m1) ∧ InC m1 Ms [] ls ∧ ∀ k, 64 ≤ k → k < 200 → m1 k = m k := by
  have e3 := hC.2.2.1
  refine ⟨mup m 0 1 (nI 0), ?_, ?_, fun k k1 k2 => mup_r (by omega)⟩
  · unfold F_X7_clear
    simp (disch := omega) only [zi_t, zi_f, bnd_t, zg_in, zx, nI_ltI, nI_leI, nI_eq, nI_add, pk_mul, pk_sub, mup_s, mup_c, mup_j, mrw_c, if_pos, if_neg, zm_1, zm_2, zm_3, zm_4, zm_5, zm_6, zm_7, zm_8, zm_9, zf_0, zf_1, zf_2, zf_3, zf_4, zf_5, zf_6, zf_7, zf_8, zf_9, zf_10, zf_14, zf_15, zf_16, zf_18, zf_19, zf_20, zf_24, zf_30, zf_31, zf_32, zf_33, zf_99, zf_100, zf_160, zf_200, zf_287, zf_288, zf_300, zf_1000, zf_1023, zf_1024, zf_1600, zf_3840, zf_25600, zf_36000, zf_1000000, zf_1000000000, zf_2000000000, zf_11560, za_1, za_2, za_4, za_5, za_6, za_7, za_8, za_9, za_10, za_11, za_12, za_14, za_15, za_22, za_23, za_25, za_26, za_27, za_28, za_29, za_30, za_31, za_32, za_33, za_34, za_35, za_41, za_42, za_43, za_44, za_45, za_46, za_47, za_48, za_49, za_61, za_62, za_63, za_64, za_65, za_70, e3]
  · obtain ⟨h1, h2, h3, h4, h5, h6, h7⟩ := hC
    refine ⟨by simp (disch := omega) only [zi_t, zi_f, bnd_t, zg_in, zx, nI_ltI, nI_leI, nI_eq, nI_add, pk_mul, pk_sub, mup_s, mup_c, mup_j, mrw_c, if_pos, if_neg, zm_1, zm_2, zm_3, zm_4, zm_5, zm_6, zm_7, zm_8, zm_9, zf_0, zf_1, zf_2, zf_3, zf_4, zf_5, zf_6, zf_7, zf_8, zf_9, zf_10, zf_14, zf_15, zf_16, zf_18, zf_19, zf_20, zf_24, zf_30, zf_31, zf_32, zf_33, zf_99, zf_100, zf_160, zf_200, zf_287, zf_288, zf_300, zf_1000, zf_1023, zf_1024, zf_1600, zf_3840, zf_25600, zf_36000, zf_1000000, zf_1000000000, zf_2000000000, zf_11560, za_1, za_2, za_4, za_5, za_6, za_7, za_8, za_9, za_10, za_11, za_12, za_14, za_15, za_22, za_23, za_25, za_26, za_27, za_28, za_29, za_30, za_31, za_32, za_33, za_34, za_35, za_41, za_42, za_43, za_44, za_45, za_46, za_47, za_48, za_49, za_61, za_62, za_63, za_64, za_65, za_70, h1], fun i M hM => (h2 i M hM).cg (by rw [mup_r (by omega)]) (by rw [mup_r (by omega)]) (by rw [mup_r (by omega)]) (by rw [mup_r (by omega)]), by simp (disch := omega) only [zi_t, zi_f, bnd_t, zg_in, zx, nI_ltI, nI_leI, nI_eq, nI_add, pk_mul, pk_sub, mup_s, mup_c, mup_j, mrw_c, if_pos, if_neg, zm_1, zm_2, zm_3, zm_4, zm_5, zm_6, zm_7, zm_8, zm_9, zf_0, zf_1, zf_2, zf_3, zf_4, zf_5, zf_6, zf_7, zf_8, zf_9, zf_10, zf_14, zf_15, zf_16, zf_18, zf_19, zf_20, zf_24, zf_30, zf_31, zf_32, zf_33, zf_99, zf_100, zf_160, zf_200, zf_287, zf_288, zf_300, zf_1000, zf_1023, zf_1024, zf_1600, zf_3840, zf_25600, zf_36000, zf_1000000, zf_1000000000, zf_2000000000, zf_11560, za_1, za_2, za_4, za_5, za_6, za_7, za_8, za_9, za_10, za_11, za_12, za_14, za_15, za_22, za_23, za_25, za_26, za_27, za_28, za_29, za_30, za_31, za_32, za_33, za_34, za_35, za_41, za_42, za_43, za_44, za_45, za_46, za_47, za_48, za_49, za_61, za_62, za_63, za_64, za_65, za_70]; rfl, fun j y hy => by simp at hy, by simp (disch := omega) only [zi_t, zi_f, bnd_t, zg_in, zx, nI_ltI, nI_leI, nI_eq, nI_add, pk_mul, pk_sub, mup_s, mup_c, mup_j, mrw_c, if_pos, if_neg, zm_1, zm_2, zm_3, zm_4, zm_5, zm_6, zm_7, zm_8, zm_9, zf_0, zf_1, zf_2, zf_3, zf_4, zf_5, zf_6, zf_7, zf_8, zf_9, zf_10, zf_14, zf_15, zf_16, zf_18, zf_19, zf_20, zf_24, zf_30, zf_31, zf_32, zf_33, zf_99, zf_100, zf_160, zf_200, zf_287, zf_288, zf_300, zf_1000, zf_1023, zf_1024, zf_1600, zf_3840, zf_25600, zf_36000, zf_1000000, zf_1000000000, zf_2000000000, zf_11560, za_1, za_2, za_4, za_5, za_6, za_7, za_8, za_9, za_10, za_11, za_12, za_14, za_15, za_22, za_23, za_25, za_26, za_27, za_28, za_29, za_30, za_31, za_32, za_33, za_34, za_35, za_41, za_42, za_43, za_44, za_45, za_46, za_47, za_48, za_49, za_61, za_62, za_63, za_64, za_65, za_70, h5], fun i p hp => ?_, by rw [mup_c (by omega), mup_c (by omega)]; exact h7⟩
    obtain ⟨b1, b2, b3⟩ := h6 i p hp
    exact ⟨by simp (disch := omega) only [zi_t, zi_f, bnd_t, zg_in, zx, nI_ltI, nI_leI, nI_eq, nI_add, pk_mul, pk_sub, mup_s, mup_c, mup_j, mrw_c, if_pos, if_neg, zm_1, zm_2, zm_3, zm_4, zm_5, zm_6, zm_7, zm_8, zm_9, zf_0, zf_1, zf_2, zf_3, zf_4, zf_5, zf_6, zf_7, zf_8, zf_9, zf_10, zf_14, zf_15, zf_16, zf_18, zf_19, zf_20, zf_24, zf_30, zf_31, zf_32, zf_33, zf_99, zf_100, zf_160, zf_200, zf_287, zf_288, zf_300, zf_1000, zf_1023, zf_1024, zf_1600, zf_3840, zf_25600, zf_36000, zf_1000000, zf_1000000000, zf_2000000000, zf_11560, za_1, za_2, za_4, za_5, za_6, za_7, za_8, za_9, za_10, za_11, za_12, za_14, za_15, za_22, za_23, za_25, za_26, za_27, za_28, za_29, za_30, za_31, za_32, za_33, za_34, za_35, za_41, za_42, za_43, za_44, za_45, za_46, za_47, za_48, za_49, za_61, za_62, za_63, za_64, za_65, za_70, b1], by simp (disch := omega) only [zi_t, zi_f, bnd_t, zg_in, zx, nI_ltI, nI_leI, nI_eq, nI_add, pk_mul, pk_sub, mup_s, mup_c, mup_j, mrw_c, if_pos, if_neg, zm_1, zm_2, zm_3, zm_4, zm_5, zm_6, zm_7, zm_8, zm_9, zf_0, zf_1, zf_2, zf_3, zf_4, zf_5, zf_6, zf_7, zf_8, zf_9, zf_10, zf_14, zf_15, zf_16, zf_18, zf_19, zf_20, zf_24, zf_30, zf_31, zf_32, zf_33, zf_99, zf_100, zf_160, zf_200, zf_287, zf_288, zf_300, zf_1000, zf_1023, zf_1024, zf_1600, zf_3840, zf_25600, zf_36000, zf_1000000, zf_1000000000, zf_2000000000, zf_11560, za_1, za_2, za_4, za_5, za_6, za_7, za_8, za_9, za_10, za_11, za_12, za_14, za_15, za_22, za_23, za_25, za_26, za_27, za_28, za_29, za_30, za_31, za_32, za_33, za_34, za_35, za_41, za_42, za_43, za_44, za_45, za_46, za_47, za_48, za_49, za_61, za_62, za_63, za_64, za_65, za_70, b2], fun j y hy => by simp (disch := omega) only [zi_t, zi_f, bnd_t, zg_in, zx, nI_ltI, nI_leI, nI_eq, nI_add, pk_mul, pk_sub, mup_s, mup_c, mup_j, mrw_c, if_pos, if_neg, zm_1, zm_2, zm_3, zm_4, zm_5, zm_6, zm_7, zm_8, zm_9, zf_0, zf_1, zf_2, zf_3, zf_4, zf_5, zf_6, zf_7, zf_8, zf_9, zf_10, zf_14, zf_15, zf_16, zf_18, zf_19, zf_20, zf_24, zf_30, zf_31, zf_32, zf_33, zf_99, zf_100, zf_160, zf_200, zf_287, zf_288, zf_300, zf_1000, zf_1023, zf_1024, zf_1600, zf_3840, zf_25600, zf_36000, zf_1000000, zf_1000000000, zf_2000000000, zf_11560, za_1, za_2, za_4, za_5, za_6, za_7, za_8, za_9, za_10, za_11, za_12, za_14, za_15, za_22, za_23, za_25, za_26, za_27, za_28, za_29, za_30, za_31, za_32, za_33, za_34, za_35, za_41, za_42, za_43, za_44, za_45, za_46, za_47, za_48, za_49, za_61, za_62, za_63, za_64, za_65, za_70, b3 j y hy]⟩
