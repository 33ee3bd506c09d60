theorem dr_useful {N n st : Nat} {m : Mem} {E : Nat → Bool} {D : ArL} {Q : List Nat} (hN : 30000 < N) (h : DR m n st E D) (hn : n ≤ 1024) (hst : st < n) (hD : D.length ≤ 25600) (hok : DOK n D) (hQ : QM m 10 n Q) (hQr : ∀ s, s ∈ Q ↔ Rc (aR D) st s) :
    ∃ m' W, F_X1_markUseful N m = some (nI W.length, m') ∧ QM m' 11 n W ∧ (∀ s, s ∈ W ↔ s < n ∧ Rc (aR D) st s ∧ ∃ e, e < n ∧ E e = true ∧ Rc (aR D) s e) ∧ Off 7 12 m m' := by
  unfold F_X1_markUseful
  refine loopF (σ := Mem × List Nat) (fun f s i => L_X1_markUseful_4 N f s.1 (nI s.2.length) (nI i)) n
    (fun i s => s.2.Nodup ∧ (∀ x, x ∈ s.2 ↔ x < i ∧ x ∈ Q ∧ E x = true) ∧ (∀ k q, s.2[k]? = some q → s.1 9 k = nI q) ∧ (∀ x, x < i → s.1 11 x = bI (decide (x ∈ s.2))) ∧ (∀ c, c ≠ 9 → c ≠ 11 → s.1 c = m c))
    (fun o => ∃ m' W, o = some (nI W.length, m') ∧ QM m' 11 n W ∧ (∀ s, s ∈ W ↔ s < n ∧ Rc (aR D) st s ∧ ∃ e, e < n ∧ E e = true ∧ Rc (aR D) s e) ∧ Off 7 12 m m')
    ?_ ?_ N 0 (m, []) (Nat.zero_le _) ⟨List.nodup_nil, fun x => ⟨fun h => (by cases h), fun h => absurd h.1 (Nat.not_lt_zero _)⟩, fun k q h => (by simp at h), fun x h => absurd h (Nat.not_lt_zero _), fun _ _ _ => rfl⟩ (by omega)
  · rintro f i ⟨m1, W⟩ hi ⟨h1, h2, h3, h4, h5⟩
    dsimp only at h1 h2 h3 h4 h5
    have e3 := (congrFun (h5 3 (by omega) (by omega)) 3).trans h.1
    have e10 := (congrFun (h5 10 (by omega) (by omega)) i).trans (hQ.2.2.2 i hi)
    have e6 := (congrFun (h5 6 (by omega) (by omega)) i).trans (h.2.2.2.2 i hi)
    have hiW : ¬ i ∈ W := fun hw => absurd ((h2 i).mp hw).1 (Nat.lt_irrefl _)
    have hlen : W.length ≤ i := nodup_bound h1 (fun x hx => ((h2 x).mp hx).1)
    by_cases hu : i ∈ Q ∧ E i = true
    · rw [decide_eq_true hu.1, bI_t] at e10
      rw [hu.2, bI_t] at e6
      refine Or.inl ⟨(mup (mup m1 11 i (nI 1)) 9 W.length (nI i), W ++ [i]), ⟨nodup_snoc h1 hiW, ?_, ?_, ?_, ?_⟩, ?_⟩
      · intro x
        rw [List.mem_append, List.mem_singleton, h2]
        constructor
        · rintro (⟨a, b⟩ | rfl)
          · exact ⟨by omega, b⟩
          · exact ⟨by omega, hu⟩
        · rintro ⟨a, b⟩
          by_cases e : x = i
          · exact Or.inr e
          · exact Or.inl ⟨by omega, b⟩
      · intro k q hq
        show mup (mup m1 11 i (nI 1)) 9 W.length (nI i) 9 k = nI q
        rcases snoc_get hq with ⟨a, b⟩ | ⟨a, b⟩
        · rw [mup_j (by omega), mup_c (by omega)]; exact h3 k q b
        · rw [a, b, mup_s]
      · intro x hx
        show mup (mup m1 11 i (nI 1)) 9 W.length (nI i) 11 x = bI (decide (x ∈ W ++ [i]))
        rw [mup_c (by omega), mup_if]
        by_cases e : x = i
        · rw [if_pos e, e, decide_eq_true (by rw [List.mem_append, List.mem_singleton]; exact Or.inr rfl)]; rfl
        · rw [if_neg e, h4 x (by omega)]
          congr 1
          apply decide_eq_decide.mpr
          rw [List.mem_append, List.mem_singleton]
          exact ⟨Or.inl, fun h => h.elim id (fun h => absurd h e)⟩
      · intro c c1 c2
        show mup (mup m1 11 i (nI 1)) 9 W.length (nI i) c = m c
        rw [mup_r c1, mup_r c2, h5 c c1 c2]
      · show S_X1_markUseful_4 N (L_X1_markUseful_4 N f) m1 (nI W.length) (nI i) = L_X1_markUseful_4 N f (mup (mup m1 11 i (nI 1)) 9 W.length (nI i)) (nI (W ++ [i]).length) (nI (i + 1))
        unfold S_X1_markUseful_4 B_X1_markUseful_40 B_X1_markUseful_60
        rw [List.length_append, List.length_singleton]
        simp (disch := omega) only [zi_t, zi_f, bnd_t, zg_in, zx, nI_ltI, nI_leI, nI_eq, nI_add, pk_mul, pk_sub, mup_s, mup_c, mup_j, mrw_c, if_pos, if_neg, zm_1, zm_2, zm_3, zm_4, zm_5, zm_6, zm_7, zm_8, zm_9, zf_0, zf_1, zf_2, zf_3, zf_4, zf_5, zf_6, zf_7, zf_8, zf_9, zf_10, zf_14, zf_15, zf_16, zf_18, zf_19, zf_20, zf_24, zf_30, zf_31, zf_32, zf_33, zf_99, zf_100, zf_160, zf_200, zf_287, zf_288, zf_300, zf_1000, zf_1023, zf_1024, zf_1600, zf_3840, zf_25600, zf_36000, zf_1000000, zf_1000000000, zf_2000000000, zf_11560, za_1, za_2, za_4, za_5, za_6, za_7, za_8, za_9, za_10, za_11, za_12, za_14, za_15, za_22, za_23, za_25, za_26, za_27, za_28, za_29, za_30, za_31, za_32, za_33, za_34, za_35, za_41, za_42, za_43, za_44, za_45, za_46, za_47, za_48, za_49, za_61, za_62, za_63, za_64, za_65, za_70, e3, e10, e6, gd_t (show isb (nI 1) = true from rfl)]
    · have hb : ∀ x, (x < i + 1 ∧ x ∈ Q ∧ E x = true) ↔ (x < i ∧ x ∈ Q ∧ E x = true) := by
        intro x
        constructor
        · rintro ⟨a, b⟩
          refine ⟨?_, b⟩
          by_cases e : x = i
          · rw [e] at b; exact absurd b hu
          · omega
        · rintro ⟨a, b⟩; exact ⟨by omega, b⟩
      refine Or.inl ⟨(mup m1 11 i (nI 0), W), ⟨h1, fun x => (h2 x).trans (hb x).symm, ?_, ?_, ?_⟩, ?_⟩
      · intro k q hq
        show mup m1 11 i (nI 0) 9 k = nI q
        rw [mup_c (by omega)]; exact h3 k q hq
      · intro x hx
        show mup m1 11 i (nI 0) 11 x = bI (decide (x ∈ W))
        rw [mup_if]
        by_cases e : x = i
        · rw [if_pos e, e, decide_eq_false hiW]; rfl
        · rw [if_neg e, h4 x (by omega)]
      · intro c c1 c2
        show mup m1 11 i (nI 0) c = m c
        rw [mup_r c2, h5 c c1 c2]
      · show S_X1_markUseful_4 N (L_X1_markUseful_4 N f) m1 (nI W.length) (nI i) = L_X1_markUseful_4 N f (mup m1 11 i (nI 0)) (nI W.length) (nI (i + 1))
        unfold S_X1_markUseful_4 B_X1_markUseful_39 B_X1_markUseful_40 B_X1_markUseful_60
        by_cases hq : i ∈ Q
        · have hE : E i = false := by
            cases hE : E i with
            | true => exact absurd ⟨hq, hE⟩ hu
            | false => rfl
          rw [decide_eq_true hq, bI_t] at e10
          rw [hE, bI_f] at e6
          simp (disch := omega) only [zi_t, zi_f, bnd_t, zg_in, zx, nI_ltI, nI_leI, nI_eq, nI_add, pk_mul, pk_sub, mup_s, mup_c, mup_j, mrw_c, if_pos, if_neg, zm_1, zm_2, zm_3, zm_4, zm_5, zm_6, zm_7, zm_8, zm_9, zf_0, zf_1, zf_2, zf_3, zf_4, zf_5, zf_6, zf_7, zf_8, zf_9, zf_10, zf_14, zf_15, zf_16, zf_18, zf_19, zf_20, zf_24, zf_30, zf_31, zf_32, zf_33, zf_99, zf_100, zf_160, zf_200, zf_287, zf_288, zf_300, zf_1000, zf_1023, zf_1024, zf_1600, zf_3840, zf_25600, zf_36000, zf_1000000, zf_1000000000, zf_2000000000, zf_11560, za_1, za_2, za_4, za_5, za_6, za_7, za_8, za_9, za_10, za_11, za_12, za_14, za_15, za_22, za_23, za_25, za_26, za_27, za_28, za_29, za_30, za_31, za_32, za_33, za_34, za_35, za_41, za_42, za_43, za_44, za_45, za_46, za_47, za_48, za_49, za_61, za_62, za_63, za_64, za_65, za_70, e3, e10, e6, gd_t (show isb (nI 0) = true from rfl)]
        · rw [decide_eq_false hq, bI_f] at e10
          simp (disch := omega) only [zi_t, zi_f, bnd_t, zg_in, zx, nI_ltI, nI_leI, nI_eq, nI_add, pk_mul, pk_sub, mup_s, mup_c, mup_j, mrw_c, if_pos, if_neg, zm_1, zm_2, zm_3, zm_4, zm_5, zm_6, zm_7, zm_8, zm_9, zf_0, zf_1, zf_2, zf_3, zf_4, zf_5, zf_6, zf_7, zf_8, zf_9, zf_10, zf_14, zf_15, zf_16, zf_18, zf_19, zf_20, zf_24, zf_30, zf_31, zf_32, zf_33, zf_99, zf_100, zf_160, zf_200, zf_287, zf_288, zf_300, zf_1000, zf_1023, zf_1024, zf_1600, zf_3840, zf_25600, zf_36000, zf_1000000, zf_1000000000, zf_2000000000, zf_11560, za_1, za_2, za_4, za_5, za_6, za_7, za_8, za_9, za_10, za_11, za_12, za_14, za_15, za_22, za_23, za_25, za_26, za_27, za_28, za_29, za_30, za_31, za_32, za_33, za_34, za_35, za_41, za_42, za_43, za_44, za_45, za_46, za_47, za_48, za_49, za_61, za_62, za_63, za_64, za_65, za_70, e3, e10, gd_t (show isb (nI 0) = true from rfl)]
  · rintro f ⟨m1, W⟩ ⟨h1, h2, h3, h4, h5⟩
    dsimp only at h1 h2 h3 h4 h5
    have e3 := (congrFun (h5 3 (by omega) (by omega)) 3).trans h.1
    have d1 : DR m1 n st E D := h.cg (h5 3 (by omega) (by omega)) (h5 4 (by omega) (by omega)) (h5 5 (by omega) (by omega)) (h5 6 (by omega) (by omega))
    have q1 : QM m1 11 n W := ⟨h1, fun s hs => ((h2 s).mp hs).1, h3, h4⟩
    obtain ⟨m3, g1, g2, g3⟩ := dr_link0 (rd := fun s => decide (s ∈ Q)) hN d1 hn hD hok (fun s hs => (congrFun (h5 10 (by omega) (by omega)) s).trans (hQ.2.2.2 s hs))
    obtain ⟨m4, V, k1, k2, k3, k4, k5, k6⟩ := fol_out (a := 11) (fw := 0) (sel := fun j => decide (keyF D j ∈ Q)) hN (Or.inr ⟨rfl, rfl⟩) hn hD hok (d1.cg (g3 3 (by omega)) (g3 4 (by omega)) (g3 5 (by omega)) (g3 6 (by omega))) g2 (q1.cg (g3 9 (by omega)) (g3 11 (by omega)))
    refine ⟨m4, V, ?_, k2, ?_, ?_⟩
    · show S_X1_markUseful_4 N (L_X1_markUseful_4 N f) m1 (nI W.length) (nI n) = _
      unfold S_X1_markUseful_4
      simp (disch := omega) only [zi_t, zi_f, bnd_t, zg_in, zx, nI_ltI, nI_leI, nI_eq, nI_add, pk_mul, pk_sub, mup_s, mup_c, mup_j, mrw_c, if_pos, if_neg, zm_1, zm_2, zm_3, zm_4, zm_5, zm_6, zm_7, zm_8, zm_9, zf_0, zf_1, zf_2, zf_3, zf_4, zf_5, zf_6, zf_7, zf_8, zf_9, zf_10, zf_14, zf_15, zf_16, zf_18, zf_19, zf_20, zf_24, zf_30, zf_31, zf_32, zf_33, zf_99, zf_100, zf_160, zf_200, zf_287, zf_288, zf_300, zf_1000, zf_1023, zf_1024, zf_1600, zf_3840, zf_25600, zf_36000, zf_1000000, zf_1000000000, zf_2000000000, zf_11560, za_1, za_2, za_4, za_5, za_6, za_7, za_8, za_9, za_10, za_11, za_12, za_14, za_15, za_22, za_23, za_25, za_26, za_27, za_28, za_29, za_30, za_31, za_32, za_33, za_34, za_35, za_41, za_42, za_43, za_44, za_45, za_46, za_47, za_48, za_49, za_61, za_62, za_63, za_64, za_65, za_70, e3]
      rw [calv_t g1]
      exact cal_t k1
    · intro s
      constructor
      · intro hs
        refine ⟨k2.2.1 s hs, ?_⟩
        refine k6 (fun x => Rc (aR D) st x ∧ ∃ e, e < n ∧ E e = true ∧ Rc (aR D) x e) ?_ ?_ s hs
        · intro x hx
          have := (h2 x).mp hx
          exact ⟨(hQr x).mp this.2.1, x, this.1, this.2.2, Rc.rf⟩
        · rintro j hj hsel ⟨_, e, he, hE, hr⟩
          exact ⟨(hQr _).mp (of_decide_eq_true hsel), e, he, hE, Rc.hd (aR_at hj) hr⟩
      · rintro ⟨hs, hr, e, he, hE, hre⟩
        have hall : ∀ x, Rc (aR D) s x → x ∈ Q := fun x hx => (hQr x).mpr (hr.tr hx)
        have hb : Rc (fun x y => aR D y x) e s := hre.rev
        have he2 : e ∈ V := k4 e ((h2 e).mpr ⟨he, hall e hre, hE⟩)
        have hcl : Rc (aR D) s e ∧ e ∈ V := ⟨hre, he2⟩
        -- all states on the way from s to e are in V
        have key : ∀ x, Rc (aR D) s x → Rc (aR D) x e → x ∈ V := by
          intro x hx hxe
          refine (hxe.rev).cl (S := fun y => Rc (aR D) st y → y ∈ V) (fun _ => he2) ?_ (hr.tr hx)
          intro y z hy hz hzr
          obtain ⟨j, hj, h7, h8⟩ := aR_of hz
          have := k5 j hj (decide_eq_true (by rw [h7]; exact (hQr z).mpr hzr)) (by show keyT D j ∈ V; rw [h8]; exact hy (hzr.st hz))
          have h9 : keyF D j ∈ V := this
          rwa [h7] at h9
        exact key s Rc.rf hre
    · intro c hc
      rw [k3 c (by omega) (by omega), g3 c (by omega), h5 c (by omega) (by omega)]
def AR (m : Mem) (a : Nat) (L : ArL) : Prop := m a 2 = nI L.length ∧ RW m (a + 1) (a + 2) L
def sm (L : ArL) : Prop := ∀ q, q ∈ L → q.1 < 2 ^ 30 ∧ q.2 < 2 ^ 30
def lb (L : ArL) (p : Nat) : Nat := L.countP (fun q => decide (q.1 < p))
theorem lb_le (L : ArL) (p : Nat) : lb L p ≤ L.length := List.countP_le_length
theorem lb_cons (q : Nat × Nat) (L : ArL) (p : Nat) : lb (q :: L) p = (if q.1 < p then lb L p + 1 else lb L p) := by
  unfold lb
  rw [List.countP_cons]
  by_cases h : q.1 < p <;> simp [h]
theorem lb_none {L : ArL} {p : Nat} (h : ∀ q, q ∈ L → p ≤ q.1) : lb L p = 0 := by
  unfold lb
  rw [List.countP_eq_zero]
  intro q hq
  have := h q hq
  simp; omega
theorem lb_iff : ∀ {L : ArL} (p : Nat), Srt L → ∀ (j : Nat) (q : Nat × Nat), L[j]? = some q → (q.1 < p ↔ j < lb L p)
  | [], _, _, j, q, h => by simp at h
  | x :: L, p, hs, j, q, h => by
    rw [lb_cons]
    have hx : ∀ y ∈ L, x.1 < y.1 := (List.pairwise_cons.mp hs).1
    have hL := (List.pairwise_cons.mp hs).2
    cases j with
    | zero =>
      rw [List.getElem?_cons_zero] at h
      cases h
      by_cases hp : x.1 < p
      · rw [if_pos hp]; exact ⟨fun _ => Nat.succ_pos _, fun _ => hp⟩
      · rw [if_neg hp, lb_none (fun y hy => by have := hx y hy; omega)]
        exact ⟨fun h => absurd h hp, fun h => absurd h (Nat.not_lt_zero _)⟩
    | succ j =>
      rw [List.getElem?_cons_succ] at h
      have ih := lb_iff p hL j q h
      have hxq := hx q (List.mem_of_getElem? h)
      by_cases hp : x.1 < p
      · rw [if_pos hp, ih]; omega
      · rw [if_neg hp, lb_none (fun y hy => by have := hx y hy; omega)]
        constructor
        · intro h; omega
        · intro h; omega
