/-! the sets of states in which a plain machine can be -/
theorem cnt_0 {b : Nat → Bool} : ∀ {n : Nat}, cnt b n = 0 → ∀ s, s < n → b s = false
  | 0, _, s, hs => absurd hs (Nat.not_lt_zero _)
  | n + 1, h, s, hs => by
    rw [cnt] at h
    by_cases e : s = n
    · rw [e]
      cases hb : b n with
      | false => rfl
      | true => rw [hb, if_pos rfl] at h; omega
    · exact cnt_0 (b := b) (n := n) (by omega) s (by omega)
theorem psA_none {sel : Nat × Nat → Bool} {v : Int32} : ∀ (L : ArL), lt32 L → (∀ s, s < 32 → tb v s = false) → psA sel L v = v
  | [], _, _ => rfl
  | q :: L, hl, h => by
    have e : stp sel v q = v := by
      unfold stp
      rw [h _ (hl q (List.mem_cons_self ..)).1, Bool.and_false, if_neg (by simp)]
    show psA sel L (stp sel v q) = v
    rw [e]
    exact psA_none L (fun x hx => hl x (List.mem_cons_of_mem _ hx)) h
theorem itA_all {sel : Nat × Nat → Bool} {L : ArL} {v : Int32} {n : Nat} (hok : DOK n L) (hn : n ≤ 32) (hv : ∀ s, s < 32 → tb v s = true → s < n) : Clo sel L v (itA sel L v 32) := by
  have hl := hok.l32 hn
  rcases Nat.eq_zero_or_pos (cnt (tb v) 32) with h | h
  · have h0 := cnt_0 h
    have e : ∀ k, itA sel L v k = v := by
      intro k
      induction k with
      | zero => rfl
      | succ k ih =>
        show psA sel L (itA sel L v k) = v
        rw [ih]; exact psA_none L hl h0
    exact clo_of hl (by rw [e]; exact psA_none L hl h0)
  · exact clo_of hl (itA_done hok hn hv h hn)
abbrev eps (L : ArL) : Nat → Nat → Prop := sR (selG true) L
def mfi (L : ArL) : Int32 := itA (selG true) L (nI 1) 32
def sx (x : Nat) (v : Int32) (q : Nat × Nat) : Bool := decide (upr q.1 = x) && tb v (fr q.1)
def st1 (L : ArL) (x : Nat) (v : Int32) : Int32 := L.foldl (fun t q => if sx x v q = true then t ||| q_shl (nI 1) (nI (too q.1)) else t) (nI 0)
def mst (L : ArL) (x : Nat) (v : Int32) : Int32 := itA (selG true) L (st1 L x v) 32
theorem st1_take {L : ArL} {x i : Nat} {v : Int32} {q : Nat × Nat} (h : L[i]? = some q) : st1 (L.take (i + 1)) x v = if sx x v q = true then st1 (L.take i) x v ||| q_shl (nI 1) (nI (too q.1)) else st1 (L.take i) x v := by
  unfold st1
  rw [List.take_add_one, h, List.foldl_append]; rfl
theorem st1_spec {x : Nat} {v : Int32} : ∀ (L : ArL) (t : Int32), lt32 L → ∀ s, s < 32 → (tb (L.foldl (fun t q => if sx x v q = true then t ||| q_shl (nI 1) (nI (too q.1)) else t) t) s = true ↔ tb t s = true ∨ ∃ q, q ∈ L ∧ upr q.1 = x ∧ tb v (fr q.1) = true ∧ too q.1 = s)
  | [], t, _, s, _ => ⟨Or.inl, fun h => h.elim id (fun ⟨q, hq, _⟩ => (by cases hq))⟩
  | a :: L, t, hl, s, hs => by
    rw [List.foldl_cons, st1_spec L _ (fun y hy => hl y (List.mem_cons_of_mem _ hy)) s hs]
    have ha := (hl a (List.mem_cons_self ..)).2
    by_cases c : sx x v a = true
    · rw [if_pos c, or_bit ha hs, Bool.or_eq_true, decide_eq_true_eq]
      unfold sx at c
      rw [Bool.and_eq_true, decide_eq_true_eq] at c
      constructor
      · rintro ((h | h) | ⟨q, hq, h⟩)
        · exact Or.inl h
        · exact Or.inr ⟨a, List.mem_cons_self .., c.1, c.2, h.symm⟩
        · exact Or.inr ⟨q, List.mem_cons_of_mem _ hq, h⟩
      · rintro (h | ⟨q, hq, h⟩)
        · exact Or.inl (Or.inl h)
        · rcases List.mem_cons.mp hq with rfl | hq
          · exact Or.inl (Or.inr h.2.2.symm)
          · exact Or.inr ⟨q, hq, h⟩
    · rw [if_neg c]
      constructor
      · rintro (h | ⟨q, hq, h⟩)
        · exact Or.inl h
        · exact Or.inr ⟨q, List.mem_cons_of_mem _ hq, h⟩
      · rintro (h | ⟨q, hq, h⟩)
        · exact Or.inl h
        · rcases List.mem_cons.mp hq with rfl | hq
          · exact absurd (by unfold sx; rw [decide_eq_true h.1, h.2.1]; rfl) c
          · exact Or.inr ⟨q, hq, h⟩
theorem st1_iff {L : ArL} {x s : Nat} {v : Int32} (hl : lt32 L) (hs : s < 32) : tb (st1 L x v) s = true ↔ ∃ q, q ∈ L ∧ upr q.1 = x ∧ tb v (fr q.1) = true ∧ too q.1 = s := by
  unfold st1
  rw [st1_spec L _ hl s hs, tb_0]
  constructor
  · rintro (h | h)
    · cases h
    · exact h
  · exact Or.inr
/-- what a step gives -/
def StpS (L : ArL) (x : Nat) (v r : Int32) : Prop := ∀ s, s < 32 → (tb r s = true ↔ ∃ q, q ∈ L ∧ upr q.1 = x ∧ tb v (fr q.1) = true ∧ Rc (eps L) (too q.1) s)
theorem tb_uq {v v' : Int32} (h : ∀ s, s < 32 → (tb v s = true ↔ tb v' s = true)) : v = v' := tb_ext (fun s hs => Bool.eq_iff_iff.mpr (h s hs))
theorem StpS.uq {L : ArL} {x : Nat} {v r r' : Int32} (h : StpS L x v r) (h' : StpS L x v r') : r = r' := tb_uq (fun s hs => (h s hs).trans (h' s hs).symm)
theorem mst_spec {L : ArL} {n x : Nat} {v : Int32} (hok : DOK n L) (hn : n ≤ 32) : StpS L x v (mst L x v) := by
  have hl := hok.l32 hn
  intro s hs
  have hc : Clo (selG true) L (st1 L x v) (mst L x v) := itA_all hok hn (fun s hs h => by
    obtain ⟨q, hq, _, _, e⟩ := (st1_iff hl hs).mp h
    rw [← e]; exact (hok q hq).2.2.1)
  rw [hc s hs]
  constructor
  · rintro ⟨a, ha, h, hr⟩
    obtain ⟨q, hq, h1, h2, h3⟩ := (st1_iff hl ha).mp h
    exact ⟨q, hq, h1, h2, by rw [h3]; exact hr⟩
  · rintro ⟨q, hq, h1, h2, hr⟩
    exact ⟨too q.1, (hl q hq).2, (st1_iff hl (hl q hq).2).mpr ⟨q, hq, h1, h2, rfl⟩, hr⟩
theorem mfi_spec {L : ArL} {n : Nat} (hok : DOK n L) (hn : n ≤ 32) (h1 : 1 ≤ n) : ∀ s, s < 32 → (tb (mfi L) s = true ↔ Rc (eps L) 0 s) := by
  intro s hs
  have hc : Clo (selG true) L (nI 1) (mfi L) := itA_all hok hn (one_lt h1)
  rw [hc s hs]
  constructor
  · rintro ⟨a, ha, h, hr⟩
    rw [tb_1 a ha, decide_eq_true_eq] at h
    rw [h] at hr; exact hr
  · intro hr; exact ⟨0, by omega, by decide +kernel, hr⟩
/-! the model's -/
theorem mo_closed_in {N i n k nn : Nat} {m : Mem} {y : Int32} {L : ArL} {v : Int32} {rec : Mem → Int32 → Int32 → Int32 → Option (Int32 × Mem)} (hN : 40000 < N) (hi : i < 24) (hM : MM m i nn y L) (hok : DOK n L) (hn : n ≤ 32) (hl : L.length ≤ 160) (hk : k < 100) :
    L_X8_closed_19 N rec N m (nI i) v (nI k) (nI (160 * i)) = rec m (nI i) (psA (selG true) L v) (nI (k + 1)) := by
  refine loopF (σ := Unit) (fun f _ j => L_X8_closed_19 N rec f m (nI i) (psA (selG true) (L.take j) v) (nI k) (nI (160 * i + j))) L.length (fun _ _ => True) (fun o => o = rec m (nI i) (psA (selG true) L v) (nI (k + 1))) ?_ ?_ N 0 () (Nat.zero_le _) trivial (by omega)
  · rintro f j _ hj _
    obtain ⟨q, hq⟩ : ∃ q, L[j]? = some q := ⟨_, List.getElem?_eq_getElem hj⟩
    have hqm := hok q (List.mem_of_getElem? hq)
    have hq2 : q.1 / 262144 < n := hqm.2.1
    have hq3 : q.1 % 1024 < n := hqm.2.2.1
    have hq4 : q.1 / 16384 % 16 ≤ 8 := hqm.2.2.2.1
    have a74 := hM.2.2.1
    have a75 : m 75 (160 * i + j) = nI (q.1 / 262144) := (hM.2.2.2 j q hq).1
    have a76 : m 76 (160 * i + j) = nI (q.1 / 16384 % 16) := (hM.2.2.2 j q hq).2.1
    have a79 : m 79 (160 * i + j) = nI (q.1 % 1024) := (hM.2.2.2 j q hq).2.2.2.2
    obtain ⟨v1, hv1⟩ : ∃ v1, v1 = psA (selG true) (L.take j) v := ⟨_, rfl⟩
    have e6 := bit_shr (x := v1) (s := q.1 / 262144) (by omega)
    refine Or.inl ⟨(), trivial, ?_⟩
    rw [psA_take hq, ← hv1]
    show S_X8_closed_19 N rec (L_X8_closed_19 N rec f) m (nI i) v1 (nI k) (nI (160 * i + j)) = _
    have hsel : selG true q = decide (q.1 / 16384 % 16 = 8) := rfl
    have hstp : stp (selG true) v1 q = if (selG true q && tb v1 (q.1 / 262144)) = true then v1 ||| q_shl (nI 1) (nI (q.1 % 1024)) else v1 := rfl
    rw [hsel] at hstp
    unfold S_X8_closed_19 B_X8_closed_76 B_X8_closed_77
    by_cases c : q.1 / 16384 % 16 = 8
    · rw [decide_eq_true c, Bool.true_and] at hstp
      cases hf : tb v1 (q.1 / 262144) with
      | true =>
        rw [hf, if_pos rfl] at hstp
        have e7 : (q_shr v1 (nI (q.1 / 262144)) &&& nI 1 = nI 1) = True := by rw [e6]; exact eq_true hf
        rw [hstp]
        simp (disch := omega) only [zi_t, zi_f, bnd_t, zg_in, zx, nI_ltI, nI_leI, nI_eq, nI_add, pk_mul, pk_sub, mup_s, mup_c, mup_j, mrw_c, if_pos, if_neg, zm_1, zm_2, zm_3, zm_4, zm_5, zm_6, zm_7, zm_8, zm_9, zf_0, zf_1, zf_2, zf_3, zf_4, zf_5, zf_6, zf_7, zf_8, zf_9, zf_10, zf_14, zf_15, zf_16, zf_18, zf_19, zf_20, zf_24, zf_30, zf_31, zf_32, zf_33, zf_99, zf_100, zf_160, zf_200, zf_287, zf_288, zf_300, zf_1000, zf_1023, zf_1024, zf_1600, zf_3840, zf_25600, zf_36000, zf_1000000, zf_1000000000, zf_2000000000, zf_11560, za_1, za_2, za_4, za_5, za_6, za_7, za_8, za_9, za_10, za_11, za_12, za_14, za_15, za_22, za_23, za_25, za_26, za_27, za_28, za_29, za_30, za_31, za_32, za_33, za_34, za_35, za_41, za_42, za_43, za_44, za_45, za_46, za_47, za_48, za_49, za_61, za_62, za_63, za_64, za_65, za_71, za_72, za_73, za_74, za_75, za_76, za_77, za_78, za_79, za_80, za_81, za_82, za_83, za_84, za_85, za_86, za_87, za_88, za_89, za_90, za_91, za_92, za_93, za_94, za_95, za_96, za_97, za_98, za_99, za_100, za_101, za_102, za_103, za_104, za_105, za_106, za_107, za_108, a74, a75, a76, a79, c, e7]
        rfl
      | false =>
        rw [hf, if_neg (by simp)] at hstp
        have e7 : (q_shr v1 (nI (q.1 / 262144)) &&& nI 1 = nI 1) = False := by rw [e6, hf]; exact eq_false (by simp)
        rw [hstp]
        simp (disch := omega) only [zi_t, zi_f, bnd_t, zg_in, zx, nI_ltI, nI_leI, nI_eq, nI_add, pk_mul, pk_sub, mup_s, mup_c, mup_j, mrw_c, if_pos, if_neg, zm_1, zm_2, zm_3, zm_4, zm_5, zm_6, zm_7, zm_8, zm_9, zf_0, zf_1, zf_2, zf_3, zf_4, zf_5, zf_6, zf_7, zf_8, zf_9, zf_10, zf_14, zf_15, zf_16, zf_18, zf_19, zf_20, zf_24, zf_30, zf_31, zf_32, zf_33, zf_99, zf_100, zf_160, zf_200, zf_287, zf_288, zf_300, zf_1000, zf_1023, zf_1024, zf_1600, zf_3840, zf_25600, zf_36000, zf_1000000, zf_1000000000, zf_2000000000, zf_11560, za_1, za_2, za_4, za_5, za_6, za_7, za_8, za_9, za_10, za_11, za_12, za_14, za_15, za_22, za_23, za_25, za_26, za_27, za_28, za_29, za_30, za_31, za_32, za_33, za_34, za_35, za_41, za_42, za_43, za_44, za_45, za_46, za_47, za_48, za_49, za_61, za_62, za_63, za_64, za_65, za_71, za_72, za_73, za_74, za_75, za_76, za_77, za_78, za_79, za_80, za_81, za_82, za_83, za_84, za_85, za_86, za_87, za_88, za_89, za_90, za_91, za_92, za_93, za_94, za_95, za_96, za_97, za_98, za_99, za_100, za_101, za_102, za_103, za_104, za_105, za_106, za_107, za_108, a74, a75, a76, c, e7, or_0]
        rfl
    · rw [decide_eq_false c, Bool.false_and, if_neg (by simp)] at hstp
      rw [hstp]
      simp (disch := omega) only [zi_t, zi_f, bnd_t, zg_in, zx, nI_ltI, nI_leI, nI_eq, nI_add, pk_mul, pk_sub, mup_s, mup_c, mup_j, mrw_c, if_pos, if_neg, zm_1, zm_2, zm_3, zm_4, zm_5, zm_6, zm_7, zm_8, zm_9, zf_0, zf_1, zf_2, zf_3, zf_4, zf_5, zf_6, zf_7, zf_8, zf_9, zf_10, zf_14, zf_15, zf_16, zf_18, zf_19, zf_20, zf_24, zf_30, zf_31, zf_32, zf_33, zf_99, zf_100, zf_160, zf_200, zf_287, zf_288, zf_300, zf_1000, zf_1023, zf_1024, zf_1600, zf_3840, zf_25600, zf_36000, zf_1000000, zf_1000000000, zf_2000000000, zf_11560, za_1, za_2, za_4, za_5, za_6, za_7, za_8, za_9, za_10, za_11, za_12, za_14, za_15, za_22, za_23, za_25, za_26, za_27, za_28, za_29, za_30, za_31, za_32, za_33, za_34, za_35, za_41, za_42, za_43, za_44, za_45, za_46, za_47, za_48, za_49, za_61, za_62, za_63, za_64, za_65, za_71, za_72, za_73, za_74, za_75, za_76, za_77, za_78, za_79, za_80, za_81, za_82, za_83, za_84, za_85, za_86, za_87, za_88, za_89, za_90, za_91, za_92, za_93, za_94, za_95, za_96, za_97, za_98, za_99, za_100, za_101, za_102, za_103, za_104, za_105, za_106, za_107, za_108, a74, a76, or_0]
      rfl
  · rintro f _ _
    have a74 := hM.2.2.1
    rw [List.take_of_length_le (Nat.le_refl _)]
    show S_X8_closed_19 N rec (L_X8_closed_19 N rec f) m (nI i) (psA (selG true) L v) (nI k) (nI (160 * i + L.length)) = _
    unfold S_X8_closed_19
    simp (disch := omega) only [zi_t, zi_f, bnd_t, zg_in, zx, nI_ltI, nI_leI, nI_eq, nI_add, pk_mul, pk_sub, mup_s, mup_c, mup_j, mrw_c, if_pos, if_neg, zm_1, zm_2, zm_3, zm_4, zm_5, zm_6, zm_7, zm_8, zm_9, zf_0, zf_1, zf_2, zf_3, zf_4, zf_5, zf_6, zf_7, zf_8, zf_9, zf_10, zf_14, zf_15, zf_16, zf_18, zf_19, zf_20, zf_24, zf_30, zf_31, zf_32, zf_33, zf_99, zf_100, zf_160, zf_200, zf_287, zf_288, zf_300, zf_1000, zf_1023, zf_1024, zf_1600, zf_3840, zf_25600, zf_36000, zf_1000000, zf_1000000000, zf_2000000000, zf_11560, za_1, za_2, za_4, za_5, za_6, za_7, za_8, za_9, za_10, za_11, za_12, za_14, za_15, za_22, za_23, za_25, za_26, za_27, za_28, za_29, za_30, za_31, za_32, za_33, za_34, za_35, za_41, za_42, za_43, za_44, za_45, za_46, za_47, za_48, za_49, za_61, za_62, za_63, za_64, za_65, za_71, za_72, za_73, za_74, za_75, za_76, za_77, za_78, za_79, za_80, za_81, za_82, za_83, za_84, za_85, za_86, za_87, za_88, za_89, za_90, za_91, za_92, za_93, za_94, za_95, za_96, za_97, za_98, za_99, za_100, za_101, za_102, za_103, za_104, za_105, za_106, za_107, za_108, a74]
theorem mo_closed {N i n nn : Nat} {y : Int32} {m : Mem} {L : ArL} {v : Int32} (hN : 40000 < N) (hi : i < 24) (hM : MM m i nn y L) (hok : DOK n L) (hn : n ≤ 32) (hl : L.length ≤ 160) : F_X8_closed N m (nI i) v = some (itA (selG true) L v 32, m) := by
  unfold F_X8_closed
  refine loopF (σ := Unit) (fun F _ k => L_X8_closed_5 N F m (nI i) (itA (selG true) L v k) (nI k)) 32 (fun _ _ => True) (fun o => o = some (itA (selG true) L v 32, m)) ?_ ?_ N 0 () (Nat.zero_le _) trivial (by omega)
  · rintro F k _ hk _
    refine Or.inl ⟨(), trivial, ?_⟩
    show S_X8_closed_5 N (L_X8_closed_5 N F) m (nI i) (itA (selG true) L v k) (nI k) = _
    unfold S_X8_closed_5
    simp (disch := omega) only [zi_t, zi_f, bnd_t, zg_in, zx, nI_ltI, nI_leI, nI_eq, nI_add, pk_mul, pk_sub, mup_s, mup_c, mup_j, mrw_c, if_pos, if_neg, zm_1, zm_2, zm_3, zm_4, zm_5, zm_6, zm_7, zm_8, zm_9, zf_0, zf_1, zf_2, zf_3, zf_4, zf_5, zf_6, zf_7, zf_8, zf_9, zf_10, zf_14, zf_15, zf_16, zf_18, zf_19, zf_20, zf_24, zf_30, zf_31, zf_32, zf_33, zf_99, zf_100, zf_160, zf_200, zf_287, zf_288, zf_300, zf_1000, zf_1023, zf_1024, zf_1600, zf_3840, zf_25600, zf_36000, zf_1000000, zf_1000000000, zf_2000000000, zf_11560, za_1, za_2, za_4, za_5, za_6, za_7, za_8, za_9, za_10, za_11, za_12, za_14, za_15, za_22, za_23, za_25, za_26, za_27, za_28, za_29, za_30, za_31, za_32, za_33, za_34, za_35, za_41, za_42, za_43, za_44, za_45, za_46, za_47, za_48, za_49, za_61, za_62, za_63, za_64, za_65, za_71, za_72, za_73, za_74, za_75, za_76, za_77, za_78, za_79, za_80, za_81, za_82, za_83, za_84, za_85, za_86, za_87, za_88, za_89, za_90, za_91, za_92, za_93, za_94, za_95, za_96, za_97, za_98, za_99, za_100, za_101, za_102, za_103, za_104, za_105, za_106, za_107, za_108]
    exact mo_closed_in hN hi hM hok hn hl (by omega)
  · rintro F _ _
    show S_X8_closed_5 N (L_X8_closed_5 N F) m (nI i) (itA (selG true) L v 32) (nI 32) = _
    unfold S_X8_closed_5
    simp (disch := omega) only [zi_t, zi_f, bnd_t, zg_in, zx, nI_ltI, nI_leI, nI_eq, nI_add, pk_mul, pk_sub, mup_s, mup_c, mup_j, mrw_c, if_pos, if_neg, zm_1, zm_2, zm_3, zm_4, zm_5, zm_6, zm_7, zm_8, zm_9, zf_0, zf_1, zf_2, zf_3, zf_4, zf_5, zf_6, zf_7, zf_8, zf_9, zf_10, zf_14, zf_15, zf_16, zf_18, zf_19, zf_20, zf_24, zf_30, zf_31, zf_32, zf_33, zf_99, zf_100, zf_160, zf_200, zf_287, zf_288, zf_300, zf_1000, zf_1023, zf_1024, zf_1600, zf_3840, zf_25600, zf_36000, zf_1000000, zf_1000000000, zf_2000000000, zf_11560, za_1, za_2, za_4, za_5, za_6, za_7, za_8, za_9, za_10, za_11, za_12, za_14, za_15, za_22, za_23, za_25, za_26, za_27, za_28, za_29, za_30, za_31, za_32, za_33, za_34, za_35, za_41, za_42, za_43, za_44, za_45, za_46, za_47, za_48, za_49, za_61, za_62, za_63, za_64, za_65, za_71, za_72, za_73, za_74, za_75, za_76, za_77, za_78, za_79, za_80, za_81, za_82, za_83, za_84, za_85, za_86, za_87, za_88, za_89, za_90, za_91, za_92, za_93, za_94, za_95, za_96, za_97, za_98, za_99, za_100, za_101, za_102, za_103, za_104, za_105, za_106, za_107, za_108]
theorem mo_step {N i n nn x : Nat} {y : Int32} {m : Mem} {L : ArL} {v : Int32} (hN : 40000 < N) (hi : i < 24) (hM : MM m i nn y L) (hok : DOK n L) (hn : n ≤ 32) (hl : L.length ≤ 160) (hx : x < 8) : F_X8_step N m (nI i) v (nI x) = some (mst L x v, m) := by
  unfold F_X8_step
  simp (disch := omega) only [zi_t, zi_f, bnd_t, zg_in, zx, nI_ltI, nI_leI, nI_eq, nI_add, pk_mul, pk_sub, mup_s, mup_c, mup_j, mrw_c, if_pos, if_neg, zm_1, zm_2, zm_3, zm_4, zm_5, zm_6, zm_7, zm_8, zm_9, zf_0, zf_1, zf_2, zf_3, zf_4, zf_5, zf_6, zf_7, zf_8, zf_9, zf_10, zf_14, zf_15, zf_16, zf_18, zf_19, zf_20, zf_24, zf_30, zf_31, zf_32, zf_33, zf_99, zf_100, zf_160, zf_200, zf_287, zf_288, zf_300, zf_1000, zf_1023, zf_1024, zf_1600, zf_3840, zf_25600, zf_36000, zf_1000000, zf_1000000000, zf_2000000000, zf_11560, za_1, za_2, za_4, za_5, za_6, za_7, za_8, za_9, za_10, za_11, za_12, za_14, za_15, za_22, za_23, za_25, za_26, za_27, za_28, za_29, za_30, za_31, za_32, za_33, za_34, za_35, za_41, za_42, za_43, za_44, za_45, za_46, za_47, za_48, za_49, za_61, za_62, za_63, za_64, za_65, za_71, za_72, za_73, za_74, za_75, za_76, za_77, za_78, za_79, za_80, za_81, za_82, za_83, za_84, za_85, za_86, za_87, za_88, za_89, za_90, za_91, za_92, za_93, za_94, za_95, za_96, za_97, za_98, za_99, za_100, za_101, za_102, za_103, za_104, za_105, za_106, za_107, za_108]
  refine loopF (σ := Unit) (fun f _ j => L_X8_step_10 N f m (nI i) v (nI x) (st1 (L.take j) x v) (nI (160 * i + j))) L.length (fun _ _ => True) (fun o => o = some (mst L x v, m)) ?_ ?_ N 0 () (Nat.zero_le _) trivial (by omega)
  · rintro f j _ hj _
    obtain ⟨q, hq⟩ : ∃ q, L[j]? = some q := ⟨_, List.getElem?_eq_getElem hj⟩
    have hqm := hok q (List.mem_of_getElem? hq)
    have hq2 : q.1 / 262144 < n := hqm.2.1
    have hq3 : q.1 % 1024 < n := hqm.2.2.1
    have hq4 : q.1 / 16384 % 16 ≤ 8 := hqm.2.2.2.1
    have a74 := hM.2.2.1
    have a75 : m 75 (160 * i + j) = nI (q.1 / 262144) := (hM.2.2.2 j q hq).1
    have a76 : m 76 (160 * i + j) = nI (q.1 / 16384 % 16) := (hM.2.2.2 j q hq).2.1
    have a79 : m 79 (160 * i + j) = nI (q.1 % 1024) := (hM.2.2.2 j q hq).2.2.2.2
    obtain ⟨v1, hv1⟩ : ∃ v1, v1 = st1 (L.take j) x v := ⟨_, rfl⟩
    have e6 := bit_shr (x := v) (s := q.1 / 262144) (by omega)
    refine Or.inl ⟨(), trivial, ?_⟩
    rw [st1_take hq, ← hv1]
    show S_X8_step_10 N (L_X8_step_10 N f) m (nI i) v (nI x) v1 (nI (160 * i + j)) = _
    have hsx : sx x v q = (decide (q.1 / 16384 % 16 = x) && tb v (q.1 / 262144)) := rfl
    unfold S_X8_step_10 B_X8_step_67 B_X8_step_68
    by_cases c : q.1 / 16384 % 16 = x
    · rw [decide_eq_true c, Bool.true_and] at hsx
      cases hf : tb v (q.1 / 262144) with
      | true =>
        rw [hf] at hsx
        have e7 : (q_shr v (nI (q.1 / 262144)) &&& nI 1 = nI 1) = True := by rw [e6]; exact eq_true hf
        rw [hsx, if_pos (show true = true from rfl)]
        simp (disch := omega) only [zi_t, zi_f, bnd_t, zg_in, zx, nI_ltI, nI_leI, nI_eq, nI_add, pk_mul, pk_sub, mup_s, mup_c, mup_j, mrw_c, if_pos, if_neg, zm_1, zm_2, zm_3, zm_4, zm_5, zm_6, zm_7, zm_8, zm_9, zf_0, zf_1, zf_2, zf_3, zf_4, zf_5, zf_6, zf_7, zf_8, zf_9, zf_10, zf_14, zf_15, zf_16, zf_18, zf_19, zf_20, zf_24, zf_30, zf_31, zf_32, zf_33, zf_99, zf_100, zf_160, zf_200, zf_287, zf_288, zf_300, zf_1000, zf_1023, zf_1024, zf_1600, zf_3840, zf_25600, zf_36000, zf_1000000, zf_1000000000, zf_2000000000, zf_11560, za_1, za_2, za_4, za_5, za_6, za_7, za_8, za_9, za_10, za_11, za_12, za_14, za_15, za_22, za_23, za_25, za_26, za_27, za_28, za_29, za_30, za_31, za_32, za_33, za_34, za_35, za_41, za_42, za_43, za_44, za_45, za_46, za_47, za_48, za_49, za_61, za_62, za_63, za_64, za_65, za_71, za_72, za_73, za_74, za_75, za_76, za_77, za_78, za_79, za_80, za_81, za_82, za_83, za_84, za_85, za_86, za_87, za_88, za_89, za_90, za_91, za_92, za_93, za_94, za_95, za_96, za_97, za_98, za_99, za_100, za_101, za_102, za_103, za_104, za_105, za_106, za_107, za_108, a74, a75, a76, a79, c, e7]
        rfl
      | false =>
        rw [hf] at hsx
        have e7 : (q_shr v (nI (q.1 / 262144)) &&& nI 1 = nI 1) = False := by rw [e6, hf]; exact eq_false (by simp)
        rw [hsx, if_neg (show ¬ false = true by simp)]
        simp (disch := omega) only [zi_t, zi_f, bnd_t, zg_in, zx, nI_ltI, nI_leI, nI_eq, nI_add, pk_mul, pk_sub, mup_s, mup_c, mup_j, mrw_c, if_pos, if_neg, zm_1, zm_2, zm_3, zm_4, zm_5, zm_6, zm_7, zm_8, zm_9, zf_0, zf_1, zf_2, zf_3, zf_4, zf_5, zf_6, zf_7, zf_8, zf_9, zf_10, zf_14, zf_15, zf_16, zf_18, zf_19, zf_20, zf_24, zf_30, zf_31, zf_32, zf_33, zf_99, zf_100, zf_160, zf_200, zf_287, zf_288, zf_300, zf_1000, zf_1023, zf_1024, zf_1600, zf_3840, zf_25600, zf_36000, zf_1000000, zf_1000000000, zf_2000000000, zf_11560, za_1, za_2, za_4, za_5, za_6, za_7, za_8, za_9, za_10, za_11, za_12, za_14, za_15, za_22, za_23, za_25, za_26, za_27, za_28, za_29, za_30, za_31, za_32, za_33, za_34, za_35, za_41, za_42, za_43, za_44, za_45, za_46, za_47, za_48, za_49, za_61, za_62, za_63, za_64, za_65, za_71, za_72, za_73, za_74, za_75, za_76, za_77, za_78, za_79, za_80, za_81, za_82, za_83, za_84, za_85, za_86, za_87, za_88, za_89, za_90, za_91, za_92, za_93, za_94, za_95, za_96, za_97, za_98, za_99, za_100, za_101, za_102, za_103, za_104, za_105, za_106, za_107, za_108, a74, a75, a76, c, e7, or_0]
        rfl
    · rw [decide_eq_false c, Bool.false_and] at hsx
      rw [hsx, if_neg (show ¬ false = true by simp)]
      simp (disch := omega) only [zi_t, zi_f, bnd_t, zg_in, zx, nI_ltI, nI_leI, nI_eq, nI_add, pk_mul, pk_sub, mup_s, mup_c, mup_j, mrw_c, if_pos, if_neg, zm_1, zm_2, zm_3, zm_4, zm_5, zm_6, zm_7, zm_8, zm_9, zf_0, zf_1, zf_2, zf_3, zf_4, zf_5, zf_6, zf_7, zf_8, zf_9, zf_10, zf_14, zf_15, zf_16, zf_18, zf_19, zf_20, zf_24, zf_30, zf_31, zf_32, zf_33, zf_99, zf_100, zf_160, zf_200, zf_287, zf_288, zf_300, zf_1000, zf_1023, zf_1024, zf_1600, zf_3840, zf_25600, zf_36000, zf_1000000, zf_1000000000, zf_2000000000, zf_11560, za_1, za_2, za_4, za_5, za_6, za_7, za_8, za_9, za_10, za_11, za_12, za_14, za_15, za_22, za_23, za_25, za_26, za_27, za_28, za_29, za_30, za_31, za_32, za_33, za_34, za_35, za_41, za_42, za_43, za_44, za_45, za_46, za_47, za_48, za_49, za_61, za_62, za_63, za_64, za_65, za_71, za_72, za_73, za_74, za_75, za_76, za_77, za_78, za_79, za_80, za_81, za_82, za_83, za_84, za_85, za_86, za_87, za_88, za_89, za_90, za_91, za_92, za_93, za_94, za_95, za_96, za_97, za_98, za_99, za_100, za_101, za_102, za_103, za_104, za_105, za_106, za_107, za_108, a74, a76, or_0]
      rfl
  · rintro f _ _
    have a74 := hM.2.2.1
    rw [List.take_of_length_le (Nat.le_refl _)]
    show S_X8_step_10 N (L_X8_step_10 N f) m (nI i) v (nI x) (st1 L x v) (nI (160 * i + L.length)) = _
    unfold S_X8_step_10
    simp (disch := omega) only [zi_t, zi_f, bnd_t, zg_in, zx, nI_ltI, nI_leI, nI_eq, nI_add, pk_mul, pk_sub, mup_s, mup_c, mup_j, mrw_c, if_pos, if_neg, zm_1, zm_2, zm_3, zm_4, zm_5, zm_6, zm_7, zm_8, zm_9, zf_0, zf_1, zf_2, zf_3, zf_4, zf_5, zf_6, zf_7, zf_8, zf_9, zf_10, zf_14, zf_15, zf_16, zf_18, zf_19, zf_20, zf_24, zf_30, zf_31, zf_32, zf_33, zf_99, zf_100, zf_160, zf_200, zf_287, zf_288, zf_300, zf_1000, zf_1023, zf_1024, zf_1600, zf_3840, zf_25600, zf_36000, zf_1000000, zf_1000000000, zf_2000000000, zf_11560, za_1, za_2, za_4, za_5, za_6, za_7, za_8, za_9, za_10, za_11, za_12, za_14, za_15, za_22, za_23, za_25, za_26, za_27, za_28, za_29, za_30, za_31, za_32, za_33, za_34, za_35, za_41, za_42, za_43, za_44, za_45, za_46, za_47, za_48, za_49, za_61, za_62, za_63, za_64, za_65, za_71, za_72, za_73, za_74, za_75, za_76, za_77, za_78, za_79, za_80, za_81, za_82, za_83, za_84, za_85, za_86, za_87, za_88, za_89, za_90, za_91, za_92, za_93, za_94, za_95, za_96, za_97, za_98, za_99, za_100, za_101, za_102, za_103, za_104, za_105, za_106, za_107, za_108, a74]
    rw [cal_t (mo_closed hN hi hM hok hn hl)]
    rfl
