def stp (sel : Nat × Nat → Bool) (v : Int32) (q : Nat × Nat) : Int32 := if (sel q && tb v (fr q.1)) = true then v ||| q_shl (nI 1) (nI (too q.1)) else v
def psA (sel : Nat × Nat → Bool) (L : ArL) (v : Int32) : Int32 := L.foldl (stp sel) v
def sR (sel : Nat × Nat → Bool) (L : ArL) (x y : Nat) : Prop := ∃ q, q ∈ L ∧ sel q = true ∧ fr q.1 = x ∧ too q.1 = y
def Clo (sel : Nat × Nat → Bool) (L : ArL) (v0 v : Int32) : Prop := ∀ s, s < 32 → (tb v s = true ↔ ∃ a, a < 32 ∧ tb v0 a = true ∧ Rc (sR sel L) a s)
def lt32 (L : ArL) : Prop := ∀ q, q ∈ L → fr q.1 < 32 ∧ too q.1 < 32
theorem DOK.l32 {n : Nat} {L : ArL} (h : DOK n L) (hn : n ≤ 32) : lt32 L := fun q hq => ⟨Nat.lt_of_lt_of_le (h q hq).2.1 hn, Nat.lt_of_lt_of_le (h q hq).2.2.1 hn⟩
theorem Clo.uq {sel : Nat × Nat → Bool} {L : ArL} {v0 v v' : Int32} (h : Clo sel L v0 v) (h' : Clo sel L v0 v') : v = v' := by
  apply tb_ext
  intro s hs
  have := (h s hs).trans (h' s hs).symm
  cases a : tb v s <;> cases b : tb v' s
  · rfl
  · rw [a, b] at this; exact absurd (this.mpr rfl) (by simp)
  · rw [a, b] at this; exact absurd (this.mp rfl) (by simp)
  · rfl
theorem or_bit {v : Int32} {t s : Nat} (ht : t < 32) (hs : s < 32) : tb (v ||| q_shl (nI 1) (nI t)) s = (tb v s || decide (s = t)) := by rw [tb_or, tb_shl t ht s hs]
theorem or_same {v : Int32} {t : Nat} (ht : t < 32) (h : tb v t = true) : v ||| q_shl (nI 1) (nI t) = v := by
  apply tb_ext
  intro s hs
  rw [or_bit ht hs]
  by_cases e : s = t
  · rw [e, h]; rfl
  · rw [decide_eq_false e, Bool.or_false]
theorem or_0 (v : Int32) : v ||| nI 0 = v := by
  apply tb_ext
  intro s hs
  rw [tb_or, tb_0, Bool.or_false]
theorem stp_le {sel : Nat × Nat → Bool} {v : Int32} {q : Nat × Nat} (s : Nat) (h : tb v s = true) : tb (stp sel v q) s = true := by
  unfold stp
  split
  · rw [tb_or, h, Bool.true_or]
  · exact h
theorem psA_le {sel : Nat × Nat → Bool} : ∀ (L : ArL) {v : Int32} (s : Nat), tb v s = true → tb (psA sel L v) s = true
  | [], _, _, h => h
  | q :: L, v, s, h => by
    show tb (psA sel L (stp sel v q)) s = true
    exact psA_le L s (stp_le s h)
theorem psA_app (sel : Nat × Nat → Bool) (L : ArL) (q : Nat × Nat) (v : Int32) : psA sel (L ++ [q]) v = stp sel (psA sel L v) q := by
  unfold psA
  rw [List.foldl_append]; rfl
theorem psA_take {sel : Nat × Nat → Bool} {L : ArL} {i : Nat} {q : Nat × Nat} (h : L[i]? = some q) (v : Int32) : psA sel (L.take (i + 1)) v = stp sel (psA sel (L.take i) v) q := by
  rw [List.take_add_one, h]
  exact psA_app sel _ q v
theorem stp_in {sel : Nat × Nat → Bool} {L : ArL} {v0 v : Int32} {q : Nat × Nat} (hl : lt32 L) (hq : q ∈ L) (h : ∀ s, s < 32 → tb v s = true → ∃ a, a < 32 ∧ tb v0 a = true ∧ Rc (sR sel L) a s) : ∀ s, s < 32 → tb (stp sel v q) s = true → ∃ a, a < 32 ∧ tb v0 a = true ∧ Rc (sR sel L) a s := by
  intro s hs
  unfold stp
  split
  · rename_i hc
    rw [Bool.and_eq_true] at hc
    rw [or_bit (hl q hq).2 hs, Bool.or_eq_true, decide_eq_true_eq]
    rintro (h1 | rfl)
    · exact h s hs h1
    · obtain ⟨a, ha, hb, hr⟩ := h (fr q.1) (hl q hq).1 hc.2
      exact ⟨a, ha, hb, hr.st ⟨q, hq, hc.1, rfl, rfl⟩⟩
  · exact h s hs
theorem psA_in {sel : Nat × Nat → Bool} {L : ArL} {v0 : Int32} (hl : lt32 L) : ∀ (K : ArL) {v : Int32}, (∀ q, q ∈ K → q ∈ L) → (∀ s, s < 32 → tb v s = true → ∃ a, a < 32 ∧ tb v0 a = true ∧ Rc (sR sel L) a s) → ∀ s, s < 32 → tb (psA sel K v) s = true → ∃ a, a < 32 ∧ tb v0 a = true ∧ Rc (sR sel L) a s
  | [], _, _, h => h
  | q :: K, v, hK, h => psA_in hl K (v := stp sel v q) (fun x hx => hK x (List.mem_cons_of_mem _ hx)) (stp_in hl (hK q (List.mem_cons_self ..)) h)
theorem psA_fix {sel : Nat × Nat → Bool} {L : ArL} {v : Int32} (hl : lt32 L) (h : psA sel L v = v) : ∀ q, q ∈ L → sel q = true → tb v (fr q.1) = true → tb v (too q.1) = true := by
  have key : ∀ (K : ArL) (v0 : Int32), lt32 K → (∀ s, tb v s = true → tb v0 s = true) → (∀ s, s < 32 → tb (psA sel K v0) s = true → tb v s = true) → ∀ q, q ∈ K → sel q = true → tb v (fr q.1) = true → tb v (too q.1) = true := by
    intro K
    induction K with
    | nil => intro _ _ _ _ q hq; cases hq
    | cons x K ih =>
      intro v0 hlK h1 h2 q hq hs hv
      rcases List.mem_cons.mp hq with rfl | hq
      · refine h2 _ (hlK q (List.mem_cons_self ..)).2 ?_
        show tb (psA sel K (stp sel v0 q)) _ = true
        apply psA_le
        unfold stp
        rw [hs, h1 _ hv, Bool.true_and, if_pos rfl, or_bit (hlK q (List.mem_cons_self ..)).2 (hlK q (List.mem_cons_self ..)).2, decide_eq_true rfl, Bool.or_true]
      · exact ih (stp sel v0 x) (fun y hy => hlK y (List.mem_cons_of_mem _ hy)) (fun s hs => stp_le s (h1 s hs)) h2 q hq hs hv
  exact key L v hl (fun _ h => h) (fun s _ hs => by rw [h] at hs; exact hs)
def itA (sel : Nat × Nat → Bool) (L : ArL) (v : Int32) : Nat → Int32
  | 0 => v
  | k + 1 => psA sel L (itA sel L v k)
theorem itA_le {sel : Nat × Nat → Bool} {L : ArL} {v : Int32} (s : Nat) (h : tb v s = true) : ∀ k, tb (itA sel L v k) s = true
  | 0 => h
  | k + 1 => psA_le L s (itA_le s h k)
theorem itA_in {sel : Nat × Nat → Bool} {L : ArL} {v : Int32} (hl : lt32 L) : ∀ k s, s < 32 → tb (itA sel L v k) s = true → ∃ a, a < 32 ∧ tb v a = true ∧ Rc (sR sel L) a s
  | 0, s, hs, h => ⟨s, hs, h, Rc.rf⟩
  | k + 1, s, hs, h => psA_in hl L (fun _ hq => hq) (itA_in hl k) s hs h
theorem clo_of {sel : Nat × Nat → Bool} {L : ArL} {v : Int32} {k : Nat} (hl : lt32 L) (h : psA sel L (itA sel L v k) = itA sel L v k) : Clo sel L v (itA sel L v k) := by
  intro s hs
  refine ⟨itA_in hl k s hs, ?_⟩
  rintro ⟨a, ha, hb, hr⟩
  refine (hr.cl (S := fun x => tb (itA sel L v k) x = true) (itA_le a hb k) ?_)
  rintro x y hx ⟨q, hq, hs2, e1, e2⟩
  rw [← e2]
  exact psA_fix hl h q hq hs2 (by rw [e1]; exact hx)
theorem psA_new {sel : Nat × Nat → Bool} {L : ArL} {v : Int32} (h : psA sel L v ≠ v) : cnt (tb v) 32 < cnt (tb (psA sel L v)) 32 := by
  have : ∃ s, s < 32 ∧ tb v s ≠ tb (psA sel L v) s := by
    apply Classical.byContradiction
    intro hn
    exact h (tb_ext (fun s hs => Classical.byContradiction (fun hne => hn ⟨s, hs, fun e => hne e.symm⟩)))
  obtain ⟨s, hs, hne⟩ := this
  have h1 : tb v s = false := by
    cases a : tb v s with
    | false => rfl
    | true => rw [a, psA_le L s a] at hne; exact absurd rfl hne
  have h2 : tb (psA sel L v) s = true := by
    cases a : tb (psA sel L v) s with
    | true => rfl
    | false => rw [h1, a] at hne; exact absurd rfl hne
  exact cnt_lt (fun x hx => psA_le L x hx) h2 h1 32 hs
theorem itA_cnt {sel : Nat × Nat → Bool} {L : ArL} {v : Int32} : ∀ k, psA sel L (itA sel L v k) = itA sel L v k ∨ k + cnt (tb v) 32 ≤ cnt (tb (itA sel L v k)) 32
  | 0 => Or.inr (by show 0 + cnt (tb v) 32 ≤ cnt (tb v) 32; omega)
  | k + 1 => by
    rcases itA_cnt (sel := sel) (L := L) (v := v) k with h | h
    · left
      show psA sel L (psA sel L (itA sel L v k)) = psA sel L (itA sel L v k)
      rw [h, h]
    · by_cases e : psA sel L (itA sel L v k) = itA sel L v k
      · left
        show psA sel L (psA sel L (itA sel L v k)) = psA sel L (itA sel L v k)
        rw [e, e]
      · right
        have := psA_new e
        show k + 1 + cnt (tb v) 32 ≤ cnt (tb (psA sel L (itA sel L v k))) 32
        omega
theorem cnt_lo {b : Nat → Bool} {n : Nat} : ∀ {k : Nat}, (∀ s, s < k → b s = true → s < n) → cnt b k ≤ n
  | 0, _ => Nat.zero_le _
  | k + 1, h => by
    rw [cnt]
    have ih := cnt_lo (b := b) (n := n) (k := k) (fun s hs => h s (by omega))
    have h2 := cnt_le b k
    split
    · rename_i hb
      have := h k (by omega) hb
      omega
    · omega
theorem itA_lt {sel : Nat × Nat → Bool} {L : ArL} {v : Int32} {n : Nat} (hok : DOK n L) (hn : n ≤ 32) (hv : ∀ s, s < 32 → tb v s = true → s < n) (k : Nat) : ∀ s, s < 32 → tb (itA sel L v k) s = true → s < n := by
  intro s hs h
  obtain ⟨a, ha, hb, hr⟩ := itA_in (hok.l32 hn) k s hs h
  refine hr.cl (S := fun x => x < n) (hv a ha hb) ?_
  rintro x y _ ⟨q, hq, _, _, e⟩
  rw [← e]; exact (hok q hq).2.2.1
theorem itA_done {sel : Nat × Nat → Bool} {L : ArL} {v : Int32} {n k : Nat} (hok : DOK n L) (hn : n ≤ 32) (hv : ∀ s, s < 32 → tb v s = true → s < n) (h1 : 0 < cnt (tb v) 32) (hk : n ≤ k) : psA sel L (itA sel L v k) = itA sel L v k := by
  rcases itA_cnt (sel := sel) (L := L) (v := v) k with h | h
  · exact h
  · have := cnt_lo (b := tb (itA sel L v k)) (n := n) (k := 32) (itA_lt hok hn hv k)
    omega
def selG (isUp : Bool) (q : Nat × Nat) : Bool := decide ((if isUp = true then upr q.1 else lwr q.1) = 8)
theorem cnt_1 : 0 < cnt (tb (nI 1)) 32 := by decide +kernel
theorem one_lt {n : Nat} (hn : 1 ≤ n) : ∀ s, s < 32 → tb (nI 1) s = true → s < n := by
  intro s hs h
  rw [tb_1 s hs, decide_eq_true_eq] at h
  omega
theorem cl_rel_in {N a n k : Nat} {u : Bool} {m : Mem} {L : ArL} {v : Int32} {rec : Mem → Nat → Int32 → Int32 → Int32 → Int32 → Option (Int32 × Mem)} (hN : 40000 < N) (ha : 200 ≤ a) (hA : AR m (a + 1) L) (hok : DOK n L) (hn : n ≤ 32) (hl : L.length ≤ 160) (hk : k < 100) :
    L_X3_relatesEmpty_25 N rec N m a (bI u) v (nI 0) (nI k) (nI 0) = rec m a (bI u) (psA (selG u) L v) (bI (decide (psA (selG u) L v ≠ v))) (nI (k + 1)) := by
  have e0 : bI (decide (psA (selG u) (L.take 0) v ≠ v)) = nI 0 := by
    show bI (decide (v ≠ v)) = nI 0
    rw [decide_eq_false (by simp)]; rfl
  suffices h : L_X3_relatesEmpty_25 N rec N m a (bI u) (psA (selG u) (L.take 0) v) (bI (decide (psA (selG u) (L.take 0) v ≠ v))) (nI k) (nI 0) = rec m a (bI u) (psA (selG u) L v) (bI (decide (psA (selG u) L v ≠ v))) (nI (k + 1)) by
    rw [e0] at h; exact h
  refine loopF (σ := Unit) (fun f _ i => L_X3_relatesEmpty_25 N rec f m a (bI u) (psA (selG u) (L.take i) v) (bI (decide (psA (selG u) (L.take i) v ≠ v))) (nI k) (nI i)) L.length (fun _ _ => True) (fun o => o = rec m a (bI u) (psA (selG u) L v) (bI (decide (psA (selG u) L v ≠ v))) (nI (k + 1))) ?_ ?_ N 0 () (Nat.zero_le _) trivial (by omega)
  · rintro f i _ hi _
    obtain ⟨q, hq⟩ : ∃ q, L[i]? = some q := ⟨_, List.getElem?_eq_getElem hi⟩
    have hqm := hok q (List.mem_of_getElem? hq)
    have hq1 := hqm.1
    have hq2 : q.1 / 262144 < n := hqm.2.1
    have hq3 : q.1 % 1024 < n := hqm.2.2.1
    have hq4 : q.1 / 16384 % 16 ≤ 8 := hqm.2.2.2.1
    have hq5 : q.1 / 1024 % 16 ≤ 8 := hqm.2.2.2.2.1
    have e1 := hA.1
    have e2 := (hA.2 i q hq).1
    obtain ⟨v1, hv1⟩ : ∃ v1, v1 = psA (selG u) (L.take i) v := ⟨_, rfl⟩
    have hle : ∀ s, tb v s = true → tb v1 s = true := fun s hs => by rw [hv1]; exact psA_le _ s hs
    have e6 := holds_t (x := v1) (s := q.1 / 262144) (by omega)
    have e7 := holds_t (x := v1) (s := q.1 % 1024) (by omega)
    refine Or.inl ⟨(), trivial, ?_⟩
    rw [psA_take hq, ← hv1]
    show S_X3_relatesEmpty_25 N rec (L_X3_relatesEmpty_25 N rec f) m a (bI u) v1 (bI (decide (v1 ≠ v))) (nI k) (nI i) = _
    have hstp : stp (selG u) v1 q = if (selG u q && tb v1 (q.1 / 262144)) = true then v1 ||| q_shl (nI 1) (nI (q.1 % 1024)) else v1 := rfl
    unfold S_X3_relatesEmpty_25
    simp (disch := omega) only [zi_t, zi_f, bnd_t, zg_in, zx, nI_ltI, nI_leI, nI_eq, nI_add, pk_mul, pk_sub, mup_s, mup_c, mup_j, mrw_c, if_pos, if_neg, zm_1, zm_2, zm_3, zm_4, zm_5, zm_6, zm_7, zm_8, zm_9, zf_0, zf_1, zf_2, zf_3, zf_4, zf_5, zf_6, zf_7, zf_8, zf_9, zf_10, zf_14, zf_15, zf_16, zf_18, zf_19, zf_20, zf_24, zf_30, zf_31, zf_32, zf_33, zf_99, zf_100, zf_160, zf_200, zf_287, zf_288, zf_300, zf_1000, zf_1023, zf_1024, zf_1600, zf_3840, zf_25600, zf_36000, zf_1000000, zf_1000000000, zf_2000000000, zf_11560, za_1, za_2, za_4, za_5, za_6, za_7, za_8, za_9, za_10, za_11, za_12, za_14, za_15, za_22, za_23, za_25, za_26, za_27, za_28, za_29, za_30, za_31, za_32, za_33, za_34, za_35, za_41, za_42, za_43, za_44, za_45, za_46, za_47, za_48, za_49, za_61, za_62, za_63, za_64, za_65, za_70, e1, e2, alen_hi, pk_upper, pk_lower]
    have hB : ∀ y : Nat, y ≤ 8 → (selG u q = decide (y = 8)) → B_X3_relatesEmpty_66 N rec (L_X3_relatesEmpty_25 N rec f) m a (bI u) v1 (bI (decide (v1 ≠ v))) (nI k) (nI i) (nI q.1) (nI y) = L_X3_relatesEmpty_25 N rec f m a (bI u) (stp (selG u) v1 q) (bI (decide (stp (selG u) v1 q ≠ v))) (nI k) (nI (i + 1)) := by
      intro y hy hsel
      unfold B_X3_relatesEmpty_66 B_X3_relatesEmpty_111
      by_cases h8 : y = 8
      · rw [decide_eq_true h8] at hsel
        rw [hsel, Bool.true_and] at hstp
        simp (disch := omega) only [zi_t, zi_f, bnd_t, zg_in, zx, nI_ltI, nI_leI, nI_eq, nI_add, pk_mul, pk_sub, mup_s, mup_c, mup_j, mrw_c, if_pos, if_neg, zm_1, zm_2, zm_3, zm_4, zm_5, zm_6, zm_7, zm_8, zm_9, zf_0, zf_1, zf_2, zf_3, zf_4, zf_5, zf_6, zf_7, zf_8, zf_9, zf_10, zf_14, zf_15, zf_16, zf_18, zf_19, zf_20, zf_24, zf_30, zf_31, zf_32, zf_33, zf_99, zf_100, zf_160, zf_200, zf_287, zf_288, zf_300, zf_1000, zf_1023, zf_1024, zf_1600, zf_3840, zf_25600, zf_36000, zf_1000000, zf_1000000000, zf_2000000000, zf_11560, za_1, za_2, za_4, za_5, za_6, za_7, za_8, za_9, za_10, za_11, za_12, za_14, za_15, za_22, za_23, za_25, za_26, za_27, za_28, za_29, za_30, za_31, za_32, za_33, za_34, za_35, za_41, za_42, za_43, za_44, za_45, za_46, za_47, za_48, za_49, za_61, za_62, za_63, za_64, za_65, za_70, h8, pk_from, pk_to, e6, e7]
        cases hf : tb v1 (q.1 / 262144) with
        | false =>
          rw [hf, if_neg (by simp)] at hstp
          rw [hstp]
          simp (disch := omega) only [zi_t, zi_f, bnd_t, zg_in, zx, nI_ltI, nI_leI, nI_eq, nI_add, pk_mul, pk_sub, mup_s, mup_c, mup_j, mrw_c, if_pos, if_neg, zm_1, zm_2, zm_3, zm_4, zm_5, zm_6, zm_7, zm_8, zm_9, zf_0, zf_1, zf_2, zf_3, zf_4, zf_5, zf_6, zf_7, zf_8, zf_9, zf_10, zf_14, zf_15, zf_16, zf_18, zf_19, zf_20, zf_24, zf_30, zf_31, zf_32, zf_33, zf_99, zf_100, zf_160, zf_200, zf_287, zf_288, zf_300, zf_1000, zf_1023, zf_1024, zf_1600, zf_3840, zf_25600, zf_36000, zf_1000000, zf_1000000000, zf_2000000000, zf_11560, za_1, za_2, za_4, za_5, za_6, za_7, za_8, za_9, za_10, za_11, za_12, za_14, za_15, za_22, za_23, za_25, za_26, za_27, za_28, za_29, za_30, za_31, za_32, za_33, za_34, za_35, za_41, za_42, za_43, za_44, za_45, za_46, za_47, za_48, za_49, za_61, za_62, za_63, za_64, za_65, za_70, bI_f]
        | true =>
          rw [hf, if_pos rfl] at hstp
          cases ht : tb v1 (q.1 % 1024) with
          | true =>
            rw [or_same (by omega) ht] at hstp
            rw [hstp]
            simp (disch := omega) only [zi_t, zi_f, bnd_t, zg_in, zx, nI_ltI, nI_leI, nI_eq, nI_add, pk_mul, pk_sub, mup_s, mup_c, mup_j, mrw_c, if_pos, if_neg, zm_1, zm_2, zm_3, zm_4, zm_5, zm_6, zm_7, zm_8, zm_9, zf_0, zf_1, zf_2, zf_3, zf_4, zf_5, zf_6, zf_7, zf_8, zf_9, zf_10, zf_14, zf_15, zf_16, zf_18, zf_19, zf_20, zf_24, zf_30, zf_31, zf_32, zf_33, zf_99, zf_100, zf_160, zf_200, zf_287, zf_288, zf_300, zf_1000, zf_1023, zf_1024, zf_1600, zf_3840, zf_25600, zf_36000, zf_1000000, zf_1000000000, zf_2000000000, zf_11560, za_1, za_2, za_4, za_5, za_6, za_7, za_8, za_9, za_10, za_11, za_12, za_14, za_15, za_22, za_23, za_25, za_26, za_27, za_28, za_29, za_30, za_31, za_32, za_33, za_34, za_35, za_41, za_42, za_43, za_44, za_45, za_46, za_47, za_48, za_49, za_61, za_62, za_63, za_64, za_65, za_70, bI_t]
          | false =>
            have hne : v1 ||| q_shl (nI 1) (nI (q.1 % 1024)) ≠ v := by
              intro h
              have h2 : tb (v1 ||| q_shl (nI 1) (nI (q.1 % 1024))) (q.1 % 1024) = true := by rw [or_bit (by omega) (by omega), decide_eq_true rfl, Bool.or_true]
              rw [h] at h2
              have := hle _ h2
              rw [ht] at this; cases this
            rw [hstp, decide_eq_true hne]
            simp (disch := omega) only [zi_t, zi_f, bnd_t, zg_in, zx, nI_ltI, nI_leI, nI_eq, nI_add, pk_mul, pk_sub, mup_s, mup_c, mup_j, mrw_c, if_pos, if_neg, zm_1, zm_2, zm_3, zm_4, zm_5, zm_6, zm_7, zm_8, zm_9, zf_0, zf_1, zf_2, zf_3, zf_4, zf_5, zf_6, zf_7, zf_8, zf_9, zf_10, zf_14, zf_15, zf_16, zf_18, zf_19, zf_20, zf_24, zf_30, zf_31, zf_32, zf_33, zf_99, zf_100, zf_160, zf_200, zf_287, zf_288, zf_300, zf_1000, zf_1023, zf_1024, zf_1600, zf_3840, zf_25600, zf_36000, zf_1000000, zf_1000000000, zf_2000000000, zf_11560, za_1, za_2, za_4, za_5, za_6, za_7, za_8, za_9, za_10, za_11, za_12, za_14, za_15, za_22, za_23, za_25, za_26, za_27, za_28, za_29, za_30, za_31, za_32, za_33, za_34, za_35, za_41, za_42, za_43, za_44, za_45, za_46, za_47, za_48, za_49, za_61, za_62, za_63, za_64, za_65, za_70, bI_t, bI_f]
      · rw [decide_eq_false h8] at hsel
        rw [hsel, Bool.false_and, if_neg (by simp)] at hstp
        rw [hstp]
        simp (disch := omega) only [zi_t, zi_f, bnd_t, zg_in, zx, nI_ltI, nI_leI, nI_eq, nI_add, pk_mul, pk_sub, mup_s, mup_c, mup_j, mrw_c, if_pos, if_neg, zm_1, zm_2, zm_3, zm_4, zm_5, zm_6, zm_7, zm_8, zm_9, zf_0, zf_1, zf_2, zf_3, zf_4, zf_5, zf_6, zf_7, zf_8, zf_9, zf_10, zf_14, zf_15, zf_16, zf_18, zf_19, zf_20, zf_24, zf_30, zf_31, zf_32, zf_33, zf_99, zf_100, zf_160, zf_200, zf_287, zf_288, zf_300, zf_1000, zf_1023, zf_1024, zf_1600, zf_3840, zf_25600, zf_36000, zf_1000000, zf_1000000000, zf_2000000000, zf_11560, za_1, za_2, za_4, za_5, za_6, za_7, za_8, za_9, za_10, za_11, za_12, za_14, za_15, za_22, za_23, za_25, za_26, za_27, za_28, za_29, za_30, za_31, za_32, za_33, za_34, za_35, za_41, za_42, za_43, za_44, za_45, za_46, za_47, za_48, za_49, za_61, za_62, za_63, za_64, za_65, za_70]
    cases u with
    | true =>
      simp (disch := omega) only [zi_t, zi_f, bnd_t, zg_in, zx, nI_ltI, nI_leI, nI_eq, nI_add, pk_mul, pk_sub, mup_s, mup_c, mup_j, mrw_c, if_pos, if_neg, zm_1, zm_2, zm_3, zm_4, zm_5, zm_6, zm_7, zm_8, zm_9, zf_0, zf_1, zf_2, zf_3, zf_4, zf_5, zf_6, zf_7, zf_8, zf_9, zf_10, zf_14, zf_15, zf_16, zf_18, zf_19, zf_20, zf_24, zf_30, zf_31, zf_32, zf_33, zf_99, zf_100, zf_160, zf_200, zf_287, zf_288, zf_300, zf_1000, zf_1023, zf_1024, zf_1600, zf_3840, zf_25600, zf_36000, zf_1000000, zf_1000000000, zf_2000000000, zf_11560, za_1, za_2, za_4, za_5, za_6, za_7, za_8, za_9, za_10, za_11, za_12, za_14, za_15, za_22, za_23, za_25, za_26, za_27, za_28, za_29, za_30, za_31, za_32, za_33, za_34, za_35, za_41, za_42, za_43, za_44, za_45, za_46, za_47, za_48, za_49, za_61, za_62, za_63, za_64, za_65, za_70, bI_t]
      exact hB (q.1 / 16384 % 16) hq4 rfl
    | false =>
      simp (disch := omega) only [zi_t, zi_f, bnd_t, zg_in, zx, nI_ltI, nI_leI, nI_eq, nI_add, pk_mul, pk_sub, mup_s, mup_c, mup_j, mrw_c, if_pos, if_neg, zm_1, zm_2, zm_3, zm_4, zm_5, zm_6, zm_7, zm_8, zm_9, zf_0, zf_1, zf_2, zf_3, zf_4, zf_5, zf_6, zf_7, zf_8, zf_9, zf_10, zf_14, zf_15, zf_16, zf_18, zf_19, zf_20, zf_24, zf_30, zf_31, zf_32, zf_33, zf_99, zf_100, zf_160, zf_200, zf_287, zf_288, zf_300, zf_1000, zf_1023, zf_1024, zf_1600, zf_3840, zf_25600, zf_36000, zf_1000000, zf_1000000000, zf_2000000000, zf_11560, za_1, za_2, za_4, za_5, za_6, za_7, za_8, za_9, za_10, za_11, za_12, za_14, za_15, za_22, za_23, za_25, za_26, za_27, za_28, za_29, za_30, za_31, za_32, za_33, za_34, za_35, za_41, za_42, za_43, za_44, za_45, za_46, za_47, za_48, za_49, za_61, za_62, za_63, za_64, za_65, za_70, bI_f]
      exact hB (q.1 / 1024 % 16) hq5 rfl
  · rintro f _ _
    have e1 := hA.1
    rw [List.take_of_length_le (Nat.le_refl _)]
    show S_X3_relatesEmpty_25 N rec (L_X3_relatesEmpty_25 N rec f) m a (bI u) (psA (selG u) L v) (bI (decide (psA (selG u) L v ≠ v))) (nI k) (nI L.length) = _
    unfold S_X3_relatesEmpty_25
    simp (disch := omega) only [zi_t, zi_f, bnd_t, zg_in, zx, nI_ltI, nI_leI, nI_eq, nI_add, pk_mul, pk_sub, mup_s, mup_c, mup_j, mrw_c, if_pos, if_neg, zm_1, zm_2, zm_3, zm_4, zm_5, zm_6, zm_7, zm_8, zm_9, zf_0, zf_1, zf_2, zf_3, zf_4, zf_5, zf_6, zf_7, zf_8, zf_9, zf_10, zf_14, zf_15, zf_16, zf_18, zf_19, zf_20, zf_24, zf_30, zf_31, zf_32, zf_33, zf_99, zf_100, zf_160, zf_200, zf_287, zf_288, zf_300, zf_1000, zf_1023, zf_1024, zf_1600, zf_3840, zf_25600, zf_36000, zf_1000000, zf_1000000000, zf_2000000000, zf_11560, za_1, za_2, za_4, za_5, za_6, za_7, za_8, za_9, za_10, za_11, za_12, za_14, za_15, za_22, za_23, za_25, za_26, za_27, za_28, za_29, za_30, za_31, za_32, za_33, za_34, za_35, za_41, za_42, za_43, za_44, za_45, za_46, za_47, za_48, za_49, za_61, za_62, za_63, za_64, za_65, za_70, e1]
