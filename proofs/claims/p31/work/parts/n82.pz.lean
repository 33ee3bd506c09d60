def bI (b : Bool) : Int32 := if b then nI 1 else nI 0
theorem bI_0 (b : Bool) : (bI b = nI 0) = (b = false) := by cases b <;> decide
theorem bI_1 (b : Bool) : (bI b = nI 1) = (b = true) := by cases b <;> decide
theorem bI_t : bI true = nI 1 := rfl
theorem bI_f : bI false = nI 0 := rfl
theorem bI_isb (b : Bool) : isb (bI b) = true := by cases b <;> rfl
abbrev fr (p : Nat) : Nat := p / 262144
abbrev upr (p : Nat) : Nat := p / 16384 % 16
abbrev lwr (p : Nat) : Nat := p / 1024 % 16
abbrev too (p : Nat) : Nat := p % 1024
theorem pkA_eta (p : Nat) : pkA (fr p) (upr p) (lwr p) (too p) = p := by unfold pkA fr upr lwr too; omega
def RW (m : Mem) (a b : Nat) (L : ArL) : Prop := ∀ j q, L[j]? = some q → m a j = nI q.1 ∧ m b j = nI q.2
theorem RW.cg {m m' : Mem} {a b : Nat} {L : ArL} (h : RW m a b L) (ha : m' a = m a) (hb : m' b = m b) : RW m' a b L := fun j q hq => by rw [ha, hb]; exact h j q hq
theorem snoc_get {α : Type} {L : List α} {x y : α} {j : Nat} (h : (L ++ [x])[j]? = some y) : (j < L.length ∧ L[j]? = some y) ∨ (j = L.length ∧ y = x) := by
  rcases Nat.lt_or_ge j L.length with hj | hj
  · rw [List.getElem?_append_left hj] at h
    exact Or.inl ⟨hj, h⟩
  · rw [List.getElem?_append_right hj] at h
    rcases Nat.eq_or_lt_of_le hj with e | e
    · subst e
      rw [Nat.sub_self, List.getElem?_cons_zero] at h
      exact Or.inr ⟨rfl, (Option.some.inj h).symm⟩
    · obtain ⟨d, hd⟩ : ∃ d, j - L.length = d + 1 := ⟨j - L.length - 1, by omega⟩
      rw [hd, List.getElem?_cons_succ] at h
      simp at h
theorem RW.snoc {m : Mem} {a b p k n : Nat} {L : ArL} (hn : L.length = n) (hab : a ≠ b) (h : RW m a b L) : RW (mup (mup m a n (nI p)) b n (nI k)) a b (L ++ [(p, k)]) := by
  subst hn
  intro j q hq
  rcases snoc_get hq with ⟨h1, h2⟩ | ⟨h1, h2⟩
  · rw [mup_c hab, mup_j (by omega), mup_j (by omega), mup_c (Ne.symm hab)]
    exact h j q h2
  · subst h1 h2
    rw [mup_c hab, mup_s, mup_s]
    exact ⟨rfl, rfl⟩
def AOK (n : Nat) (q : Nat × Nat) : Prop := q.1 < 2 ^ 28 ∧ fr q.1 < n ∧ too q.1 < n ∧ upr q.1 ≤ 8 ∧ lwr q.1 ≤ 8 ∧ q.2 ≤ 1000000
def DOK (n : Nat) (D : ArL) : Prop := ∀ q, q ∈ D → AOK n q
theorem AOK.mk {n s u l t c : Nat} (hn : n ≤ 1024) (hs : s < n) (hu : u ≤ 8) (hl : l ≤ 8) (ht : t < n) (hc : c ≤ 1000000) : AOK n (pkA s u l t, c) := by
  refine ⟨?_, ?_, ?_, ?_, ?_, hc⟩
  · show 262144 * s + 16384 * u + 1024 * l + t < 2 ^ 28; omega
  · show (262144 * s + 16384 * u + 1024 * l + t) / 262144 < n; omega
  · show (262144 * s + 16384 * u + 1024 * l + t) % 1024 < n; omega
  · show (262144 * s + 16384 * u + 1024 * l + t) / 16384 % 16 ≤ 8; omega
  · show (262144 * s + 16384 * u + 1024 * l + t) / 1024 % 16 ≤ 8; omega
theorem DOK.snoc {n : Nat} {D : ArL} {q : Nat × Nat} (h : DOK n D) (hq : AOK n q) : DOK n (D ++ [q]) := by
  intro x hx
  rcases List.mem_append.mp hx with e | e
  · exact h x e
  · rw [List.mem_singleton] at e; rw [e]; exact hq
def DR (m : Mem) (n st : Nat) (E : Nat → Bool) (D : ArL) : Prop := m 3 3 = nI n ∧ m 3 4 = nI st ∧ m 3 5 = nI D.length ∧ RW m 4 5 D ∧ ∀ s, s < n → m 6 s = bI (E s)
theorem DR.cg {m m' : Mem} {n st : Nat} {E : Nat → Bool} {D : ArL} (h : DR m n st E D) (h3 : m' 3 = m 3) (h4 : m' 4 = m 4) (h5 : m' 5 = m 5) (h6 : m' 6 = m 6) : DR m' n st E D := by
  refine ⟨by rw [h3]; exact h.1, by rw [h3]; exact h.2.1, by rw [h3]; exact h.2.2.1, h.2.2.2.1.cg h4 h5, fun s hs => by rw [h6]; exact h.2.2.2.2 s hs⟩
theorem dr_begin' {N n st : Nat} {m : Mem} (hN : 2000 < N) (hn : n ≤ 1024) : ∃ m', F_X1_begin N m (nI n) (nI st) = some m' ∧ DR m' n st (fun _ => false) [] ∧ Off 3 7 m m' := by
  obtain ⟨m', h, h1, h2, h3, h4, h5⟩ := dr_begin (st := st) (m := m) hN hn
  exact ⟨m', h, ⟨h1, h2, h3, fun j q hq => by simp at hq, fun s hs => h4 s hs⟩, h5⟩
theorem dr_addArc {N n st s u l t c : Nat} {m : Mem} {E : Nat → Bool} {D : ArL} (h : DR m n st E D) (hn : n ≤ 1024) (hD : D.length < 25600) (hs : s < n) (hu : u ≤ 8) (hl : l ≤ 8) (ht : t < n) :
    ∃ m', F_X1_addArc N m (nI s) (nI u) (nI l) (nI c) (nI t) = some m' ∧ DR m' n st E (D ++ [(pkA s u l t, c)]) ∧ Off 3 7 m m' := by
  obtain ⟨h1, h2, h3, h4, h5⟩ := h
  refine ⟨mup (mup (mup m 4 D.length (nI (pkA s u l t))) 5 D.length (nI c)) 3 5 (nI (D.length + 1)), ?_, ⟨?_, ?_, ?_, ?_, ?_⟩, ?_⟩
  · unfold F_X1_addArc B_X1_addArc_65
    simp (disch := omega) only [zi_t, zi_f, bnd_t, zg_in, zx, nI_ltI, nI_leI, nI_eq, nI_add, pk_mul, pk_sub, mup_s, mup_c, mup_j, mrw_c, if_pos, if_neg, zm_1, zm_2, zm_3, zm_4, zm_5, zm_6, zm_7, zm_8, zm_9, zf_0, zf_1, zf_2, zf_3, zf_4, zf_5, zf_6, zf_7, zf_8, zf_9, zf_10, zf_14, zf_15, zf_16, zf_18, zf_19, zf_20, zf_24, zf_30, zf_31, zf_32, zf_33, zf_99, zf_100, zf_160, zf_200, zf_287, zf_288, zf_300, zf_1000, zf_1023, zf_1024, zf_1600, zf_3840, zf_25600, zf_36000, zf_1000000, zf_1000000000, zf_2000000000, zf_11560, za_1, za_2, za_4, za_5, za_6, za_7, za_8, za_9, za_10, za_11, za_12, za_14, za_15, za_22, za_23, za_25, za_26, za_27, za_28, za_29, za_30, za_31, za_32, za_33, za_34, za_35, za_41, za_42, za_43, za_44, za_45, za_46, za_47, za_48, za_49, za_61, za_62, za_63, za_64, za_65, za_70, h1, h3, pk_packed]
  · simp (disch := omega) only [zi_t, zi_f, bnd_t, zg_in, zx, nI_ltI, nI_leI, nI_eq, nI_add, pk_mul, pk_sub, mup_s, mup_c, mup_j, mrw_c, if_pos, if_neg, zm_1, zm_2, zm_3, zm_4, zm_5, zm_6, zm_7, zm_8, zm_9, zf_0, zf_1, zf_2, zf_3, zf_4, zf_5, zf_6, zf_7, zf_8, zf_9, zf_10, zf_14, zf_15, zf_16, zf_18, zf_19, zf_20, zf_24, zf_30, zf_31, zf_32, zf_33, zf_99, zf_100, zf_160, zf_200, zf_287, zf_288, zf_300, zf_1000, zf_1023, zf_1024, zf_1600, zf_3840, zf_25600, zf_36000, zf_1000000, zf_1000000000, zf_2000000000, zf_11560, za_1, za_2, za_4, za_5, za_6, za_7, za_8, za_9, za_10, za_11, za_12, za_14, za_15, za_22, za_23, za_25, za_26, za_27, za_28, za_29, za_30, za_31, za_32, za_33, za_34, za_35, za_41, za_42, za_43, za_44, za_45, za_46, za_47, za_48, za_49, za_61, za_62, za_63, za_64, za_65, za_70, h1]
  · simp (disch := omega) only [zi_t, zi_f, bnd_t, zg_in, zx, nI_ltI, nI_leI, nI_eq, nI_add, pk_mul, pk_sub, mup_s, mup_c, mup_j, mrw_c, if_pos, if_neg, zm_1, zm_2, zm_3, zm_4, zm_5, zm_6, zm_7, zm_8, zm_9, zf_0, zf_1, zf_2, zf_3, zf_4, zf_5, zf_6, zf_7, zf_8, zf_9, zf_10, zf_14, zf_15, zf_16, zf_18, zf_19, zf_20, zf_24, zf_30, zf_31, zf_32, zf_33, zf_99, zf_100, zf_160, zf_200, zf_287, zf_288, zf_300, zf_1000, zf_1023, zf_1024, zf_1600, zf_3840, zf_25600, zf_36000, zf_1000000, zf_1000000000, zf_2000000000, zf_11560, za_1, za_2, za_4, za_5, za_6, za_7, za_8, za_9, za_10, za_11, za_12, za_14, za_15, za_22, za_23, za_25, za_26, za_27, za_28, za_29, za_30, za_31, za_32, za_33, za_34, za_35, za_41, za_42, za_43, za_44, za_45, za_46, za_47, za_48, za_49, za_61, za_62, za_63, za_64, za_65, za_70, h2]
  · rw [mup_s, List.length_append]; rfl
  · exact (h4.snoc rfl (by omega)).cg (mup_r (by omega)) (mup_r (by omega))
  · intro x hx
    simp (disch := omega) only [zi_t, zi_f, bnd_t, zg_in, zx, nI_ltI, nI_leI, nI_eq, nI_add, pk_mul, pk_sub, mup_s, mup_c, mup_j, mrw_c, if_pos, if_neg, zm_1, zm_2, zm_3, zm_4, zm_5, zm_6, zm_7, zm_8, zm_9, zf_0, zf_1, zf_2, zf_3, zf_4, zf_5, zf_6, zf_7, zf_8, zf_9, zf_10, zf_14, zf_15, zf_16, zf_18, zf_19, zf_20, zf_24, zf_30, zf_31, zf_32, zf_33, zf_99, zf_100, zf_160, zf_200, zf_287, zf_288, zf_300, zf_1000, zf_1023, zf_1024, zf_1600, zf_3840, zf_25600, zf_36000, zf_1000000, zf_1000000000, zf_2000000000, zf_11560, za_1, za_2, za_4, za_5, za_6, za_7, za_8, za_9, za_10, za_11, za_12, za_14, za_15, za_22, za_23, za_25, za_26, za_27, za_28, za_29, za_30, za_31, za_32, za_33, za_34, za_35, za_41, za_42, za_43, za_44, za_45, za_46, za_47, za_48, za_49, za_61, za_62, za_63, za_64, za_65, za_70, h5 x hx]
  · exact ((Off.rf.up (by omega) (by omega)).up (by omega) (by omega)).up (by omega) (by omega)
theorem dr_addEnd {N n st s : Nat} {m : Mem} {E : Nat → Bool} {D : ArL} (h : DR m n st E D) (hn : n ≤ 1024) (hs : s < n) :
    ∃ m', F_X1_addEnd N m (nI s) = some m' ∧ DR m' n st (fun x => E x || decide (x = s)) D ∧ Off 3 7 m m' := by
  obtain ⟨h1, h2, h3, h4, h5⟩ := h
  refine ⟨mup m 6 s (nI 1), ?_, ⟨?_, ?_, ?_, ?_, ?_⟩, ?_⟩
  · unfold F_X1_addEnd B_X1_addEnd_15
    simp (disch := omega) only [zi_t, zi_f, bnd_t, zg_in, zx, nI_ltI, nI_leI, nI_eq, nI_add, pk_mul, pk_sub, mup_s, mup_c, mup_j, mrw_c, if_pos, if_neg, zm_1, zm_2, zm_3, zm_4, zm_5, zm_6, zm_7, zm_8, zm_9, zf_0, zf_1, zf_2, zf_3, zf_4, zf_5, zf_6, zf_7, zf_8, zf_9, zf_10, zf_14, zf_15, zf_16, zf_18, zf_19, zf_20, zf_24, zf_30, zf_31, zf_32, zf_33, zf_99, zf_100, zf_160, zf_200, zf_287, zf_288, zf_300, zf_1000, zf_1023, zf_1024, zf_1600, zf_3840, zf_25600, zf_36000, zf_1000000, zf_1000000000, zf_2000000000, zf_11560, za_1, za_2, za_4, za_5, za_6, za_7, za_8, za_9, za_10, za_11, za_12, za_14, za_15, za_22, za_23, za_25, za_26, za_27, za_28, za_29, za_30, za_31, za_32, za_33, za_34, za_35, za_41, za_42, za_43, za_44, za_45, za_46, za_47, za_48, za_49, za_61, za_62, za_63, za_64, za_65, za_70, h1]
  · simp (disch := omega) only [zi_t, zi_f, bnd_t, zg_in, zx, nI_ltI, nI_leI, nI_eq, nI_add, pk_mul, pk_sub, mup_s, mup_c, mup_j, mrw_c, if_pos, if_neg, zm_1, zm_2, zm_3, zm_4, zm_5, zm_6, zm_7, zm_8, zm_9, zf_0, zf_1, zf_2, zf_3, zf_4, zf_5, zf_6, zf_7, zf_8, zf_9, zf_10, zf_14, zf_15, zf_16, zf_18, zf_19, zf_20, zf_24, zf_30, zf_31, zf_32, zf_33, zf_99, zf_100, zf_160, zf_200, zf_287, zf_288, zf_300, zf_1000, zf_1023, zf_1024, zf_1600, zf_3840, zf_25600, zf_36000, zf_1000000, zf_1000000000, zf_2000000000, zf_11560, za_1, za_2, za_4, za_5, za_6, za_7, za_8, za_9, za_10, za_11, za_12, za_14, za_15, za_22, za_23, za_25, za_26, za_27, za_28, za_29, za_30, za_31, za_32, za_33, za_34, za_35, za_41, za_42, za_43, za_44, za_45, za_46, za_47, za_48, za_49, za_61, za_62, za_63, za_64, za_65, za_70, h1]
  · simp (disch := omega) only [zi_t, zi_f, bnd_t, zg_in, zx, nI_ltI, nI_leI, nI_eq, nI_add, pk_mul, pk_sub, mup_s, mup_c, mup_j, mrw_c, if_pos, if_neg, zm_1, zm_2, zm_3, zm_4, zm_5, zm_6, zm_7, zm_8, zm_9, zf_0, zf_1, zf_2, zf_3, zf_4, zf_5, zf_6, zf_7, zf_8, zf_9, zf_10, zf_14, zf_15, zf_16, zf_18, zf_19, zf_20, zf_24, zf_30, zf_31, zf_32, zf_33, zf_99, zf_100, zf_160, zf_200, zf_287, zf_288, zf_300, zf_1000, zf_1023, zf_1024, zf_1600, zf_3840, zf_25600, zf_36000, zf_1000000, zf_1000000000, zf_2000000000, zf_11560, za_1, za_2, za_4, za_5, za_6, za_7, za_8, za_9, za_10, za_11, za_12, za_14, za_15, za_22, za_23, za_25, za_26, za_27, za_28, za_29, za_30, za_31, za_32, za_33, za_34, za_35, za_41, za_42, za_43, za_44, za_45, za_46, za_47, za_48, za_49, za_61, za_62, za_63, za_64, za_65, za_70, h2]
  · simp (disch := omega) only [zi_t, zi_f, bnd_t, zg_in, zx, nI_ltI, nI_leI, nI_eq, nI_add, pk_mul, pk_sub, mup_s, mup_c, mup_j, mrw_c, if_pos, if_neg, zm_1, zm_2, zm_3, zm_4, zm_5, zm_6, zm_7, zm_8, zm_9, zf_0, zf_1, zf_2, zf_3, zf_4, zf_5, zf_6, zf_7, zf_8, zf_9, zf_10, zf_14, zf_15, zf_16, zf_18, zf_19, zf_20, zf_24, zf_30, zf_31, zf_32, zf_33, zf_99, zf_100, zf_160, zf_200, zf_287, zf_288, zf_300, zf_1000, zf_1023, zf_1024, zf_1600, zf_3840, zf_25600, zf_36000, zf_1000000, zf_1000000000, zf_2000000000, zf_11560, za_1, za_2, za_4, za_5, za_6, za_7, za_8, za_9, za_10, za_11, za_12, za_14, za_15, za_22, za_23, za_25, za_26, za_27, za_28, za_29, za_30, za_31, za_32, za_33, za_34, za_35, za_41, za_42, za_43, za_44, za_45, za_46, za_47, za_48, za_49, za_61, za_62, za_63, za_64, za_65, za_70, h3]
  · exact h4.cg (mup_r (by omega)) (mup_r (by omega))
  · intro x hx
    rw [mup_if]
    split
    · rename_i e
      show nI 1 = bI (E x || decide (x = s))
      rw [decide_eq_true e, Bool.or_true]; rfl
    · rename_i e
      show m 6 x = bI (E x || decide (x = s))
      rw [decide_eq_false e, Bool.or_false]
      exact h5 x hx
  · exact Off.rf.up (by omega) (by omega)
def Chn (m : Mem) : Int32 → List Nat → Prop
  | x, [] => x = nM
  | x, j :: js => x = nI j ∧ Chn m (m 8 j) js
theorem Chn.cg {m m' : Mem} : ∀ {js : List Nat} {x : Int32}, Chn m x js → (∀ j, j ∈ js → m' 8 j = m 8 j) → Chn m' x js
  | [], _, h, _ => h
  | j :: js, x, h, e => ⟨h.1, by rw [e j (List.mem_cons_self ..)]; exact h.2.cg (fun i hi => e i (List.mem_cons_of_mem _ hi))⟩
def CH (m : Mem) (n i : Nat) (sel : Nat → Bool) (key : Nat → Nat) : Prop := ∀ s, s < n → ∃ js : List Nat, Chn m (m 7 s) js ∧ js.Nodup ∧ ∀ j, j ∈ js ↔ j < i ∧ sel j = true ∧ key j = s
theorem CH.cg {m m' : Mem} {n i : Nat} {sel : Nat → Bool} {key : Nat → Nat} (h : CH m n i sel key) (h7 : m' 7 = m 7) (h8 : m' 8 = m 8) : CH m' n i sel key := by
  intro s hs
  obtain ⟨js, h1, h2, h3⟩ := h s hs
  exact ⟨js, by rw [h7]; exact h1.cg (fun j _ => by rw [h8]), h2, h3⟩
theorem CH.add {m : Mem} {n i s0 : Nat} {sel : Nat → Bool} {key : Nat → Nat} (h : CH m n i sel key) (hk : key i = s0) (hs0 : s0 < n) (hsel : sel i = true) : CH (mup (mup m 8 i (m 7 s0)) 7 s0 (nI i)) n (i + 1) sel key := by
  intro s hs
  obtain ⟨js, h1, h2, h3⟩ := h s hs
  have hni : ¬ i ∈ js := fun hi => by have := ((h3 i).mp hi).1; omega
  have hc : Chn (mup (mup m 8 i (m 7 s0)) 7 s0 (nI i)) (m 7 s) js := h1.cg (fun j hj => by rw [mup_c (by omega), mup_j (by rintro rfl; exact hni hj)])
  by_cases e : s = s0
  · subst e
    refine ⟨i :: js, ⟨by rw [mup_s], ?_⟩, List.nodup_cons.mpr ⟨hni, h2⟩, ?_⟩
    · rw [mup_c (by omega), mup_s]; exact hc
    · intro j
      rw [List.mem_cons, h3]
      constructor
      · rintro (rfl | ⟨a, b, c⟩)
        · exact ⟨by omega, hsel, hk⟩
        · exact ⟨by omega, b, c⟩
      · rintro ⟨a, b, c⟩
        by_cases e : j = i
        · exact Or.inl e
        · exact Or.inr ⟨by omega, b, c⟩
  · refine ⟨js, ?_, h2, ?_⟩
    · rw [mup_j (by omega), mup_c (by omega)]; exact hc
    · intro j
      rw [h3]
      constructor
      · rintro ⟨a, b, c⟩; exact ⟨by omega, b, c⟩
      · rintro ⟨a, b, c⟩
        refine ⟨?_, b, c⟩
        by_cases e2 : j = i
        · subst e2; exact absurd (by rw [← c, hk]) e
        · omega
theorem CH.skip {m : Mem} {n i : Nat} {sel : Nat → Bool} {key : Nat → Nat} (h : CH m n i sel key) (hsel : sel i = false) : CH m n (i + 1) sel key := by
  intro s hs
  obtain ⟨js, h1, h2, h3⟩ := h s hs
  refine ⟨js, h1, h2, ?_⟩
  intro j
  rw [h3]
  constructor
  · rintro ⟨a, b, c⟩; exact ⟨by omega, b, c⟩
  · rintro ⟨a, b, c⟩
    refine ⟨?_, b, c⟩
    by_cases e2 : j = i
    · subst e2; rw [hsel] at b; cases b
    · omega
def keyF (D : ArL) (j : Nat) : Nat := fr (D.getD j (0, 0)).1
def keyT (D : ArL) (j : Nat) : Nat := too (D.getD j (0, 0)).1
theorem keyF_at {D : ArL} {j : Nat} {q : Nat × Nat} (h : D[j]? = some q) : keyF D j = fr q.1 := by unfold keyF; rw [List.getD_eq_getElem?_getD, h]; rfl
theorem keyT_at {D : ArL} {j : Nat} {q : Nat × Nat} (h : D[j]? = some q) : keyT D j = too q.1 := by unfold keyT; rw [List.getD_eq_getElem?_getD, h]; rfl
theorem dr_link1 {N n st : Nat} {m : Mem} {E : Nat → Bool} {D : ArL} (hN : 30000 < N) (h : DR m n st E D) (hn : n ≤ 1024) (hD : D.length ≤ 25600) (hok : DOK n D) :
    ∃ m', F_X1_linkArcs N m (nI 1) = some m' ∧ CH m' n D.length (fun _ => true) (keyF D) ∧ Off 7 9 m m' := by
  unfold F_X1_linkArcs
  refine loopF (fun f (m : Mem) i => L_X1_linkArcs_2 N f m (nI 1) (nI i)) n (fun i m' => (∀ s, s < i → m' 7 s = nM) ∧ Off 7 9 m m') (fun o => ∃ m', o = some m' ∧ CH m' n D.length (fun _ => true) (keyF D) ∧ Off 7 9 m m') ?_ ?_ N 0 m (Nat.zero_le _) ⟨fun s hs => by omega, Off.rf⟩ (by omega)
  · rintro f i m1 hi ⟨h1, h2⟩
    have e3 := h2.at (k := 3) (by omega) 3
    refine Or.inl ⟨mup m1 7 i nM, ⟨?_, h2.up (by omega) (by omega)⟩, ?_⟩
    · intro s hs
      rw [mup_if]
      split
      · rfl
      · exact h1 s (by omega)
    · show S_X1_linkArcs_2 N (L_X1_linkArcs_2 N f) m1 (nI 1) (nI i) = _
      unfold S_X1_linkArcs_2
      simp (disch := omega) only [zi_t, zi_f, bnd_t, zg_in, zx, nI_ltI, nI_leI, nI_eq, nI_add, pk_mul, pk_sub, mup_s, mup_c, mup_j, mrw_c, if_pos, if_neg, zm_1, zm_2, zm_3, zm_4, zm_5, zm_6, zm_7, zm_8, zm_9, zf_0, zf_1, zf_2, zf_3, zf_4, zf_5, zf_6, zf_7, zf_8, zf_9, zf_10, zf_14, zf_15, zf_16, zf_18, zf_19, zf_20, zf_24, zf_30, zf_31, zf_32, zf_33, zf_99, zf_100, zf_160, zf_200, zf_287, zf_288, zf_300, zf_1000, zf_1023, zf_1024, zf_1600, zf_3840, zf_25600, zf_36000, zf_1000000, zf_1000000000, zf_2000000000, zf_11560, za_1, za_2, za_4, za_5, za_6, za_7, za_8, za_9, za_10, za_11, za_12, za_14, za_15, za_22, za_23, za_25, za_26, za_27, za_28, za_29, za_30, za_31, za_32, za_33, za_34, za_35, za_41, za_42, za_43, za_44, za_45, za_46, za_47, za_48, za_49, za_61, za_62, za_63, za_64, za_65, za_70, e3, h.1]
  · rintro f m1 ⟨h1, h2⟩
    have e3 := h2.at (k := 3) (by omega) 3
    show ∃ m', S_X1_linkArcs_2 N (L_X1_linkArcs_2 N f) m1 (nI 1) (nI n) = some m' ∧ _
    unfold S_X1_linkArcs_2
    simp (disch := omega) only [zi_t, zi_f, bnd_t, zg_in, zx, nI_ltI, nI_leI, nI_eq, nI_add, pk_mul, pk_sub, mup_s, mup_c, mup_j, mrw_c, if_pos, if_neg, zm_1, zm_2, zm_3, zm_4, zm_5, zm_6, zm_7, zm_8, zm_9, zf_0, zf_1, zf_2, zf_3, zf_4, zf_5, zf_6, zf_7, zf_8, zf_9, zf_10, zf_14, zf_15, zf_16, zf_18, zf_19, zf_20, zf_24, zf_30, zf_31, zf_32, zf_33, zf_99, zf_100, zf_160, zf_200, zf_287, zf_288, zf_300, zf_1000, zf_1023, zf_1024, zf_1600, zf_3840, zf_25600, zf_36000, zf_1000000, zf_1000000000, zf_2000000000, zf_11560, za_1, za_2, za_4, za_5, za_6, za_7, za_8, za_9, za_10, za_11, za_12, za_14, za_15, za_22, za_23, za_25, za_26, za_27, za_28, za_29, za_30, za_31, za_32, za_33, za_34, za_35, za_41, za_42, za_43, za_44, za_45, za_46, za_47, za_48, za_49, za_61, za_62, za_63, za_64, za_65, za_70, e3, h.1]
    refine loopF (fun f (m : Mem) i => L_X1_linkArcs_25 N f m (nI 1) (nI i)) D.length (fun i m' => CH m' n i (fun _ => true) (keyF D) ∧ Off 7 9 m m') (fun o => ∃ m', o = some m' ∧ CH m' n D.length (fun _ => true) (keyF D) ∧ Off 7 9 m m') ?_ ?_ N 0 m1 (Nat.zero_le _) ⟨?_, h2⟩ (by omega)
    · rintro f i m2 hi ⟨h3, h4⟩
      obtain ⟨q, hq⟩ : ∃ q, D[i]? = some q := ⟨_, List.getElem?_eq_getElem hi⟩
      have hqm := hok q (List.mem_of_getElem? hq)
      have e5 := (h4.at (k := 3) (by omega) 5).trans h.2.2.1
      have e4 := (h4.at (k := 4) (by omega) i).trans (h.2.2.2.1 i q hq).1
      have hq1 := hqm.1
      have hq2 : q.1 / 262144 < n := hqm.2.1
      refine Or.inl ⟨mup (mup m2 8 i (m2 7 (fr q.1))) 7 (fr q.1) (nI i), ⟨h3.add (keyF_at hq) hqm.2.1 rfl, (h4.up (by omega) (by omega)).up (by omega) (by omega)⟩, ?_⟩
      show S_X1_linkArcs_25 N (L_X1_linkArcs_25 N f) m2 (nI 1) (nI i) = _
      unfold S_X1_linkArcs_25 B_X1_linkArcs_54 B_X1_linkArcs_79 B_X1_linkArcs_99
      simp (disch := omega) only [zi_t, zi_f, bnd_t, zg_in, zx, nI_ltI, nI_leI, nI_eq, nI_add, pk_mul, pk_sub, mup_s, mup_c, mup_j, mrw_c, if_pos, if_neg, zm_1, zm_2, zm_3, zm_4, zm_5, zm_6, zm_7, zm_8, zm_9, zf_0, zf_1, zf_2, zf_3, zf_4, zf_5, zf_6, zf_7, zf_8, zf_9, zf_10, zf_14, zf_15, zf_16, zf_18, zf_19, zf_20, zf_24, zf_30, zf_31, zf_32, zf_33, zf_99, zf_100, zf_160, zf_200, zf_287, zf_288, zf_300, zf_1000, zf_1023, zf_1024, zf_1600, zf_3840, zf_25600, zf_36000, zf_1000000, zf_1000000000, zf_2000000000, zf_11560, za_1, za_2, za_4, za_5, za_6, za_7, za_8, za_9, za_10, za_11, za_12, za_14, za_15, za_22, za_23, za_25, za_26, za_27, za_28, za_29, za_30, za_31, za_32, za_33, za_34, za_35, za_41, za_42, za_43, za_44, za_45, za_46, za_47, za_48, za_49, za_61, za_62, za_63, za_64, za_65, za_70, e5, e4, pk_from, eq_self]
    · rintro f m2 ⟨h3, h4⟩
      have e5 := (h4.at (k := 3) (by omega) 5).trans h.2.2.1
      refine ⟨m2, ?_, h3, h4⟩
      show S_X1_linkArcs_25 N (L_X1_linkArcs_25 N f) m2 (nI 1) (nI D.length) = _
      unfold S_X1_linkArcs_25
      simp (disch := omega) only [zi_t, zi_f, bnd_t, zg_in, zx, nI_ltI, nI_leI, nI_eq, nI_add, pk_mul, pk_sub, mup_s, mup_c, mup_j, mrw_c, if_pos, if_neg, zm_1, zm_2, zm_3, zm_4, zm_5, zm_6, zm_7, zm_8, zm_9, zf_0, zf_1, zf_2, zf_3, zf_4, zf_5, zf_6, zf_7, zf_8, zf_9, zf_10, zf_14, zf_15, zf_16, zf_18, zf_19, zf_20, zf_24, zf_30, zf_31, zf_32, zf_33, zf_99, zf_100, zf_160, zf_200, zf_287, zf_288, zf_300, zf_1000, zf_1023, zf_1024, zf_1600, zf_3840, zf_25600, zf_36000, zf_1000000, zf_1000000000, zf_2000000000, zf_11560, za_1, za_2, za_4, za_5, za_6, za_7, za_8, za_9, za_10, za_11, za_12, za_14, za_15, za_22, za_23, za_25, za_26, za_27, za_28, za_29, za_30, za_31, za_32, za_33, za_34, za_35, za_41, za_42, za_43, za_44, za_45, za_46, za_47, za_48, za_49, za_61, za_62, za_63, za_64, za_65, za_70, e5]
    · intro s hs
      exact ⟨[], h1 s hs, List.nodup_nil, fun j => ⟨fun h => (by cases h), fun h => (by omega)⟩⟩
