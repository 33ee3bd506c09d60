theorem hasEnd' {N a : Nat} {e v : Int32} {m : Mem} (h : m a 3 = e) : F_X6_hasEndIn N m a v = some (bI (decide (v &&& e ≠ nI 0)), m) := by
  unfold F_X6_hasEndIn B_X6_hasEndIn_14
  by_cases c : v &&& e = nI 0
  · rw [decide_eq_false (fun h => h c)]
    simp (disch := omega) only [zi_t, zi_f, bnd_t, zg_in, zx, nI_ltI, nI_leI, nI_eq, nI_add, pk_mul, pk_sub, mup_s, mup_c, mup_j, mrw_c, if_pos, if_neg, zm_1, zm_2, zm_3, zm_4, zm_5, zm_6, zm_7, zm_8, zm_9, zf_0, zf_1, zf_2, zf_3, zf_4, zf_5, zf_6, zf_7, zf_8, zf_9, zf_10, zf_14, zf_15, zf_16, zf_18, zf_19, zf_20, zf_24, zf_30, zf_31, zf_32, zf_33, zf_99, zf_100, zf_160, zf_200, zf_287, zf_288, zf_300, zf_1000, zf_1023, zf_1024, zf_1600, zf_3840, zf_25600, zf_36000, zf_1000000, zf_1000000000, zf_2000000000, zf_11560, za_1, za_2, za_4, za_5, za_6, za_7, za_8, za_9, za_10, za_11, za_12, za_14, za_15, za_22, za_23, za_25, za_26, za_27, za_28, za_29, za_30, za_31, za_32, za_33, za_34, za_35, za_41, za_42, za_43, za_44, za_45, za_46, za_47, za_48, za_49, za_61, za_62, za_63, za_64, za_65, za_70, h, c]
    rfl
  · rw [decide_eq_true c]
    simp (disch := omega) only [zi_t, zi_f, bnd_t, zg_in, zx, nI_ltI, nI_leI, nI_eq, nI_add, pk_mul, pk_sub, mup_s, mup_c, mup_j, mrw_c, if_pos, if_neg, zm_1, zm_2, zm_3, zm_4, zm_5, zm_6, zm_7, zm_8, zm_9, zf_0, zf_1, zf_2, zf_3, zf_4, zf_5, zf_6, zf_7, zf_8, zf_9, zf_10, zf_14, zf_15, zf_16, zf_18, zf_19, zf_20, zf_24, zf_30, zf_31, zf_32, zf_33, zf_99, zf_100, zf_160, zf_200, zf_287, zf_288, zf_300, zf_1000, zf_1023, zf_1024, zf_1600, zf_3840, zf_25600, zf_36000, zf_1000000, zf_1000000000, zf_2000000000, zf_11560, za_1, za_2, za_4, za_5, za_6, za_7, za_8, za_9, za_10, za_11, za_12, za_14, za_15, za_22, za_23, za_25, za_26, za_27, za_28, za_29, za_30, za_31, za_32, za_33, za_34, za_35, za_41, za_42, za_43, za_44, za_45, za_46, za_47, za_48, za_49, za_61, za_62, za_63, za_64, za_65, za_70, h, c]
    rfl
def CW (m : Mem) (wn : Nat) (eA eB' : Int32) : Prop := m 20 2 = nI wn ∧ m 21 3 = eA ∧ m 24 3 = eB'
theorem cl_isWanted' {N wn k : Nat} {eA eB' : Int32} {m : Mem} {s : XS} {J : Nat} (hw : CW m wn eA eB') (hwn : wn < 3) (h : CX m s J) (hk : k < s.1.length) (hl : s.1.length ≤ 200) : F_X5_isWanted N m (nI k) = some (bI (waf wn eA eB' s.1 k), m) :=
  cl_isWanted (fun _ => hasEnd' hw.2.1) (fun _ => hasEnd' hw.2.2) hw.1 hwn h hk hl
def fB2 (what : Nat) (LB : ArL) (v : Int32) (x : Nat) : Int32 := if what = 0 then nI 0 else mst LB x v
def exF (what : Nat) (LA LB : ArL) : Option XS := exR (fun v x => mst LA x v) (fB2 what LB) (kpW (wnW what)) (mfi LA) (if what = 0 then nI 0 else mfi LB) 200
def eB2 (what : Nat) (e : Int32) : Int32 := if what = 0 then nI 0 else e
def FrS (m m' : Mem) : Prop := (∀ k, (k < 20 ∨ 32 ≤ k) → m' k = m k) ∧ ∀ j, j ≠ 2 → j ≠ 8 → m' 20 j = m 20 j
theorem cl_exOne {N a1 n : Nat} {e : Int32} {m : Mem} {L : ArL} (hN : 40000 < N) (ha1 : 200 ≤ a1) (hC : MC m a1 n e L) (hok : DOK n L) (h1 : 1 ≤ n) (hn : n ≤ 32) (hl : L.length ≤ 160) (hacy : Acy upr L) (LB : ArL) :
    ∃ m', FrS m m' ∧ ((exF 0 L LB = none ∧ F_X5_exploreOne N m a1 = some (nI 0, m')) ∨ ∃ s, exF 0 L LB = some s ∧ F_X5_exploreOne N m a1 = some (nI 1, m') ∧ CX m' s (8 * s.1.length) ∧ s.1.length ≤ 200 ∧ CW m' 0 e (nI 0)) := by
  obtain ⟨m2, g1, g2, g3⟩ := cl_take (a := 21) hN (by omega) ha1 rfl rfl hC hok hn hl hacy
  obtain ⟨m4, k1, k2, k3⟩ := cl_nothing (N := N) (a := 24) (m := m2)
  obtain ⟨m5, hm5⟩ : ∃ m5, m5 = mup m4 20 2 (nI 0) := ⟨_, rfl⟩
  have s5 : SP m5 21 n e L := g2.cg (fun k a b => by rw [hm5, mup_r (by omega), k3 k (by omega)])
  have n5 : SN m5 24 := ⟨by rw [hm5, mup_c (by omega)]; exact k2.1, by rw [hm5, mup_c (by omega)]; exact k2.2⟩
  have sP : ∀ m', FrE m5 m' → SP m' 21 n e L := fun m' hf => s5.cg (fun k a b => hf.1 k (by omega) (by omega))
  have sN : ∀ m', FrE m5 m' → SN m' 24 := fun m' hf => ⟨by rw [hf.1 24 (by omega) (by omega)]; exact n5.1, by rw [hf.1 24 (by omega) (by omega)]; exact n5.2⟩
  obtain ⟨m', p1, p2⟩ := cl_explore (m := m5) (wn := 0) (a0 := mfi L) (b0 := nI 0) (fA := fun v x => mst L x v) (fB := fB2 0 LB) hN
    (fun m' hf v x hx => cl_setBehind hN (sP m' hf) rfl hok hn hx) (fun m' hf v x hx => sn_setBehind hN (sN m' hf)) (fun m' hf => cl_firstSet (sP m' hf) rfl hok hn h1) (fun m' hf => sn_firstSet (sN m' hf)) (by rw [hm5, mup_s]) (by omega)
  have hfr : FrS m m' := by
    refine ⟨fun k hk => ?_, fun j j1 j2 => ?_⟩
    · rw [p1.1 k (by omega) (by omega), hm5, mup_r (by omega), k3 k (by omega), g3 k (by omega)]
    · rw [p1.2 j j2, hm5, mup_j j1, k3.at (by omega) j, g3.at (by omega) j]
  have hrun : F_X5_exploreOne N m a1 = cal (F_X5_explore N m5) (fun r8 m7 => gd (isb r8) (some (r8, m7))) := by
    unfold F_X5_exploreOne
    rw [calv_t g1, calv_t k1]
    simp (disch := omega) only [zi_t, zi_f, bnd_t, zg_in, zx, nI_ltI, nI_leI, nI_eq, nI_add, pk_mul, pk_sub, mup_s, mup_c, mup_j, mrw_c, if_pos, if_neg, zm_1, zm_2, zm_3, zm_4, zm_5, zm_6, zm_7, zm_8, zm_9, zf_0, zf_1, zf_2, zf_3, zf_4, zf_5, zf_6, zf_7, zf_8, zf_9, zf_10, zf_14, zf_15, zf_16, zf_18, zf_19, zf_20, zf_24, zf_30, zf_31, zf_32, zf_33, zf_99, zf_100, zf_160, zf_200, zf_287, zf_288, zf_300, zf_1000, zf_1023, zf_1024, zf_1600, zf_3840, zf_25600, zf_36000, zf_1000000, zf_1000000000, zf_2000000000, zf_11560, za_1, za_2, za_4, za_5, za_6, za_7, za_8, za_9, za_10, za_11, za_12, za_14, za_15, za_22, za_23, za_25, za_26, za_27, za_28, za_29, za_30, za_31, za_32, za_33, za_34, za_35, za_41, za_42, za_43, za_44, za_45, za_46, za_47, za_48, za_49, za_61, za_62, za_63, za_64, za_65, za_70]
    rw [hm5]
  refine ⟨m', hfr, ?_⟩
  rcases p2 with ⟨q1, q2⟩ | ⟨s, q1, q2, q3, q4⟩
  · exact Or.inl ⟨q1, by rw [hrun, cal_t q2]; rfl⟩
  · refine Or.inr ⟨s, q1, by rw [hrun, cal_t q2]; rfl, q3, q4, ?_, ?_, ?_⟩
    · rw [p1.2 2 (by omega), hm5, mup_s]
    · exact (sP m' p1).2.1
    · exact (sN m' p1).2
theorem cl_exTwo {N a1 a2 nA nB what : Nat} {eA eB' : Int32} {m : Mem} {LA LB : ArL} (hN : 40000 < N) (ha1 : 200 ≤ a1) (ha2 : 200 ≤ a2) (hA : MC m a1 nA eA LA) (okA : DOK nA LA) (hA1 : 1 ≤ nA) (hA2 : nA ≤ 32) (lA : LA.length ≤ 160) (acA : Acy upr LA) (hB : MC m a2 nB eB' LB) (okB : DOK nB LB) (hB1 : 1 ≤ nB) (hB2 : nB ≤ 32) (lB : LB.length ≤ 160) (acB : Acy upr LB) (h0 : what ≠ 0) (hwh : what < 4) :
    ∃ m', FrS m m' ∧ ((exF what LA LB = none ∧ F_X5_exploreTwo N m a1 a2 (nI (wnW what)) = some (nI 0, m')) ∨ ∃ s, exF what LA LB = some s ∧ F_X5_exploreTwo N m a1 a2 (nI (wnW what)) = some (nI 1, m') ∧ CX m' s (8 * s.1.length) ∧ s.1.length ≤ 200 ∧ CW m' (wnW what) eA eB') := by
  have hwn : wnW what < 3 := by unfold wnW; split <;> (try split) <;> omega
  obtain ⟨m2, g1, g2, g3⟩ := cl_take (a := 21) hN (by omega) ha1 rfl rfl hA okA hA2 lA acA
  have hB' : MC m2 a2 nB eB' LB := hB.cg (g3 a2 (by omega)) (g3 _ (by omega)) (g3 _ (by omega)) (g3 _ (by omega))
  obtain ⟨m4, k1, k2, k3⟩ := cl_take (a := 24) hN (by omega) ha2 rfl rfl hB' okB hB2 lB acB
  obtain ⟨m5, hm5⟩ : ∃ m5, m5 = mup m4 20 2 (nI (wnW what)) := ⟨_, rfl⟩
  have s5 : SP m5 21 nA eA LA := g2.cg (fun k a b => by rw [hm5, mup_r (by omega), k3 k (by omega)])
  have n5 : SP m5 24 nB eB' LB := k2.cg (fun k a b => by rw [hm5, mup_r (by omega)])
  have sP : ∀ m', FrE m5 m' → SP m' 21 nA eA LA := fun m' hf => s5.cg (fun k a b => hf.1 k (by omega) (by omega))
  have sN : ∀ m', FrE m5 m' → SP m' 24 nB eB' LB := fun m' hf => n5.cg (fun k a b => hf.1 k (by omega) (by omega))
  obtain ⟨m', p1, p2⟩ := cl_explore (m := m5) (wn := wnW what) (a0 := mfi LA) (b0 := mfi LB) (fA := fun v x => mst LA x v) (fB := fB2 what LB) hN
    (fun m' hf v x hx => cl_setBehind hN (sP m' hf) rfl okA hA2 hx) (fun m' hf v x hx => by
      show F_X6_setBehind N m' 24 v (nI x) = some (if what = 0 then nI 0 else mst LB x v, m')
      rw [if_neg h0]
      exact cl_setBehind hN (sN m' hf) rfl okB hB2 hx) (fun m' hf => cl_firstSet (sP m' hf) rfl okA hA2 hA1) (fun m' hf => cl_firstSet (sN m' hf) rfl okB hB2 hB1) (by rw [hm5, mup_s]) hwn
  have hex : exF what LA LB = exR (fun v x => mst LA x v) (fB2 what LB) (kpW (wnW what)) (mfi LA) (mfi LB) 200 := by
    unfold exF
    rw [if_neg h0]
  have hfr : FrS m m' := by
    refine ⟨fun k hk => ?_, fun j j1 j2 => ?_⟩
    · rw [p1.1 k (by omega) (by omega), hm5, mup_r (by omega), k3 k (by omega), g3 k (by omega)]
    · rw [p1.2 j j2, hm5, mup_j j1, k3.at (by omega) j, g3.at (by omega) j]
  have hrun : F_X5_exploreTwo N m a1 a2 (nI (wnW what)) = cal (F_X5_explore N m5) (fun r8 m7 => gd (isb r8) (some (r8, m7))) := by
    unfold F_X5_exploreTwo
    rw [calv_t g1, calv_t k1]
    simp (disch := omega) only [zi_t, zi_f, bnd_t, zg_in, zx, nI_ltI, nI_leI, nI_eq, nI_add, pk_mul, pk_sub, mup_s, mup_c, mup_j, mrw_c, if_pos, if_neg, zm_1, zm_2, zm_3, zm_4, zm_5, zm_6, zm_7, zm_8, zm_9, zf_0, zf_1, zf_2, zf_3, zf_4, zf_5, zf_6, zf_7, zf_8, zf_9, zf_10, zf_14, zf_15, zf_16, zf_18, zf_19, zf_20, zf_24, zf_30, zf_31, zf_32, zf_33, zf_99, zf_100, zf_160, zf_200, zf_287, zf_288, zf_300, zf_1000, zf_1023, zf_1024, zf_1600, zf_3840, zf_25600, zf_36000, zf_1000000, zf_1000000000, zf_2000000000, zf_11560, za_1, za_2, za_4, za_5, za_6, za_7, za_8, za_9, za_10, za_11, za_12, za_14, za_15, za_22, za_23, za_25, za_26, za_27, za_28, za_29, za_30, za_31, za_32, za_33, za_34, za_35, za_41, za_42, za_43, za_44, za_45, za_46, za_47, za_48, za_49, za_61, za_62, za_63, za_64, za_65, za_70]
    rw [hm5]
  refine ⟨m', hfr, ?_⟩
  rw [hex]
  rcases p2 with ⟨q1, q2⟩ | ⟨s, q1, q2, q3, q4⟩
  · exact Or.inl ⟨q1, by rw [hrun, cal_t q2]; rfl⟩
  · refine Or.inr ⟨s, q1, by rw [hrun, cal_t q2]; rfl, q3, q4, ?_, ?_, ?_⟩
    · rw [p1.2 2 (by omega), hm5, mup_s]
    · exact (sP m' p1).2.1
    · exact (sN m' p1).2.1
def dpt (pr : Nat → Nat) : Nat → Nat → Nat
  | 0, _ => 0
  | f + 1, i => if i = 0 then 0 else dpt pr f (pr i) + 1
theorem dpt_le {pr : Nat → Nat} (h : ∀ i, 1 ≤ i → pr i < i) : ∀ f i, dpt pr f i ≤ i
  | 0, _ => Nat.zero_le _
  | f + 1, i => by
    rw [dpt]
    split
    · omega
    · have := dpt_le h f (pr i)
      have := h i (by omega)
      omega
theorem dpt_eq {pr : Nat → Nat} (h : ∀ i, 1 ≤ i → pr i < i) : ∀ f g i, i < f → i < g → dpt pr f i = dpt pr g i
  | 0, _, i, hf, _ => absurd hf (Nat.not_lt_zero _)
  | _ + 1, 0, i, _, hg => absurd hg (Nat.not_lt_zero _)
  | f + 1, g + 1, i, hf, hg => by
    rw [dpt, dpt]
    split
    · rfl
    · have := h i (by omega)
      rw [dpt_eq h f g (pr i) (by omega) (by omega)]
abbrev dp (pr : Nat → Nat) (i : Nat) : Nat := dpt pr (i + 1) i
theorem dp_0 (pr : Nat → Nat) : dp pr 0 = 0 := rfl
theorem dp_s {pr : Nat → Nat} (h : ∀ i, 1 ≤ i → pr i < i) {i : Nat} (hi : 1 ≤ i) : dp pr i = dp pr (pr i) + 1 := by
  have h1 := h i hi
  show (if i = 0 then 0 else dpt pr i (pr i) + 1) = dpt pr (pr i + 1) (pr i) + 1
  rw [if_neg (by omega), dpt_eq h i (pr i + 1) (pr i) (by omega) (by omega)]
def bkw (pr : Nat → Nat) : Nat → Nat → Nat
  | 0, i => i
  | n + 1, i => bkw pr n (pr i)
theorem xok_pr {s : XS} (h : XOK s (8 * s.1.length)) : ∃ (pr by' : Nat → Nat), (∀ i, 1 ≤ i → pr i < i) ∧ ∀ i, 1 ≤ i → i < s.1.length → s.2.2.1 i = nI (pr i) ∧ s.2.2.2 i = nI (by' i) ∧ by' i < 8 ∧ s.2.1 (8 * pr i + by' i) = nI i := by
  have hch : ∀ i, ∃ p : Nat × Nat, 1 ≤ i → p.1 < i ∧ (i < s.1.length → s.2.2.1 i = nI p.1 ∧ s.2.2.2 i = nI p.2 ∧ p.2 < 8 ∧ s.2.1 (8 * p.1 + p.2) = nI i) := by
    intro i
    by_cases c : 1 ≤ i ∧ i < s.1.length
    · obtain ⟨k, x, a1, a2, a3, a4, a5, a6⟩ := h.2.2.2.2 i c.1 c.2
      exact ⟨(k, x), fun _ => ⟨a1, fun _ => ⟨a4, a5, a2, a6⟩⟩⟩
    · exact ⟨(0, 0), fun h1 => ⟨h1, fun h2 => absurd ⟨h1, h2⟩ c⟩⟩
  obtain ⟨f, hf⟩ := Classical.axiomOfChoice hch
  exact ⟨fun i => (f i).1, fun i => (f i).2, fun i hi => (hf i hi).1, fun i h1 h2 => (hf i h1).2 h2⟩
def wlet (pr by' : Nat → Nat) (k p : Nat) : Nat := if dp pr k ≤ p then 8 else by' (bkw pr (dp pr k - 1 - p) k)
