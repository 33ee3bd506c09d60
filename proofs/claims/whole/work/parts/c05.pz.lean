/-! the model's answers, depth first -/
theorem mo_isAnswer {N i n d : Nat} {f : Nat → Bool} {L : ArL} {w : List Nat} {δ : Nat → Nat} {m : Mem} (hN : 40000 < N) (hG : GD i n L w) (hM : MLk m i n f L w δ) (hd : d < 300) (hb : Bo m d) :
    ∃ b, F_X8_isAnswer N m (nI i) (nI d) = some (bI b, m) ∧ (b = true ↔ AnK n f w (InR m d)) := by
  obtain ⟨hi, hok, hl, hn, hwl, hwx, _⟩ := hG
  have e72 := hM.1.1.1
  have e702 := hM.1.2.1
  unfold F_X8_isAnswer
  refine loopF (σ := Bool) (fun g x s => L_X8_isAnswer_5 N g m (nI i) (nI d) (bI x) (nI s)) n (fun s x => x = true ↔ ∃ t, t < s ∧ f t = true ∧ At m d (32 * w.length + t)) (fun o => ∃ b, o = some (bI b, m) ∧ (b = true ↔ AnK n f w (InR m d))) ?_ ?_ N 0 false (Nat.zero_le _) ⟨fun h => (by cases h), fun ⟨t, ht, _⟩ => absurd ht (Nat.not_lt_zero _)⟩ (by omega)
  · rintro g s fl hs hI
    have hI : fl = true ↔ ∃ t, t < s ∧ f t = true ∧ At m d (32 * w.length + t) := hI
    left
    show ∃ s' : Bool, _ ∧ S_X8_isAnswer_5 N (L_X8_isAnswer_5 N g) m (nI i) (nI d) (bI fl) (nI s) = _
    unfold S_X8_isAnswer_5 B_X8_isAnswer_58 B_X8_isAnswer_54 B_X8_isAnswer_59
    have ei : 288 * d + 32 * w.length + s = 288 * d + (32 * w.length + s) := by omega
    have hend := mo_isEndOf (N := N) (s := s) hM.1.1.2.1 hi hn (by omega)
    cases fl with
    | true =>
      obtain ⟨t, t1, t2⟩ := hI.mp rfl
      refine ⟨true, ⟨fun _ => ⟨t, by omega, t2⟩, fun _ => rfl⟩, ?_⟩
      simp (disch := omega) only [zi_t, zi_f, bnd_t, zg_in, zx, nI_ltI, nI_leI, nI_eq, nI_add, pk_mul, pk_sub, mup_s, mup_c, mup_j, mrw_c, if_pos, if_neg, zm_1, zm_2, zm_3, zm_4, zm_5, zm_6, zm_7, zm_8, zm_9, zf_0, zf_1, zf_2, zf_3, zf_4, zf_5, zf_6, zf_7, zf_8, zf_9, zf_10, zf_14, zf_15, zf_16, zf_18, zf_19, zf_20, zf_24, zf_30, zf_31, zf_32, zf_33, zf_99, zf_100, zf_160, zf_200, zf_287, zf_288, zf_300, zf_1000, zf_1023, zf_1024, zf_1600, zf_3840, zf_25600, zf_36000, zf_1000000, zf_1000000000, zf_2000000000, zf_11560, za_1, za_2, za_4, za_5, za_6, za_7, za_8, za_9, za_10, za_11, za_12, za_14, za_15, za_22, za_23, za_25, za_26, za_27, za_28, za_29, za_30, za_31, za_32, za_33, za_34, za_35, za_41, za_42, za_43, za_44, za_45, za_46, za_47, za_48, za_49, za_61, za_62, za_63, za_64, za_65, za_71, za_72, za_73, za_74, za_75, za_76, za_77, za_78, za_79, za_80, za_81, za_82, za_83, za_84, za_85, za_86, za_87, za_88, za_89, za_90, za_91, za_92, za_93, za_94, za_95, za_96, za_97, za_98, za_99, za_100, za_101, za_102, za_103, za_104, za_105, za_106, za_107, za_108, e72, bI_t]
    | false =>
      have hno : ∀ t, t < s → f t = true → ¬ At m d (32 * w.length + t) := fun t t1 t2 t3 => by
        have := hI.mpr ⟨t, t1, t2, t3⟩
        cases this
      rcases hb (32 * w.length + s) (by omega) with c0 | c1
      · refine ⟨false, ⟨fun h => (by cases h), fun ⟨t, t1, t2, t3⟩ => ?_⟩, ?_⟩
        · by_cases e : t = s
          · rw [e] at t3; exact absurd t3 (At.no c0)
          · exact absurd t3 (hno t (by omega) t2)
        · simp (disch := omega) only [zi_t, zi_f, bnd_t, zg_in, zx, nI_ltI, nI_leI, nI_eq, nI_add, pk_mul, pk_sub, mup_s, mup_c, mup_j, mrw_c, if_pos, if_neg, zm_1, zm_2, zm_3, zm_4, zm_5, zm_6, zm_7, zm_8, zm_9, zf_0, zf_1, zf_2, zf_3, zf_4, zf_5, zf_6, zf_7, zf_8, zf_9, zf_10, zf_14, zf_15, zf_16, zf_18, zf_19, zf_20, zf_24, zf_30, zf_31, zf_32, zf_33, zf_99, zf_100, zf_160, zf_200, zf_287, zf_288, zf_300, zf_1000, zf_1023, zf_1024, zf_1600, zf_3840, zf_25600, zf_36000, zf_1000000, zf_1000000000, zf_2000000000, zf_11560, za_1, za_2, za_4, za_5, za_6, za_7, za_8, za_9, za_10, za_11, za_12, za_14, za_15, za_22, za_23, za_25, za_26, za_27, za_28, za_29, za_30, za_31, za_32, za_33, za_34, za_35, za_41, za_42, za_43, za_44, za_45, za_46, za_47, za_48, za_49, za_61, za_62, za_63, za_64, za_65, za_71, za_72, za_73, za_74, za_75, za_76, za_77, za_78, za_79, za_80, za_81, za_82, za_83, za_84, za_85, za_86, za_87, za_88, za_89, za_90, za_91, za_92, za_93, za_94, za_95, za_96, za_97, za_98, za_99, za_100, za_101, za_102, za_103, za_104, za_105, za_106, za_107, za_108, e72, e702, bI_f, ei, c0]
      · cases hf : f s with
        | false =>
          rw [hf, Bool.and_false] at hend
          refine ⟨false, ⟨fun h => (by cases h), fun ⟨t, t1, t2, t3⟩ => ?_⟩, ?_⟩
          · by_cases e : t = s
            · rw [e, hf] at t2; cases t2
            · exact absurd t3 (hno t (by omega) t2)
          · simp (disch := omega) only [zi_t, zi_f, bnd_t, zg_in, zx, nI_ltI, nI_leI, nI_eq, nI_add, pk_mul, pk_sub, mup_s, mup_c, mup_j, mrw_c, if_pos, if_neg, zm_1, zm_2, zm_3, zm_4, zm_5, zm_6, zm_7, zm_8, zm_9, zf_0, zf_1, zf_2, zf_3, zf_4, zf_5, zf_6, zf_7, zf_8, zf_9, zf_10, zf_14, zf_15, zf_16, zf_18, zf_19, zf_20, zf_24, zf_30, zf_31, zf_32, zf_33, zf_99, zf_100, zf_160, zf_200, zf_287, zf_288, zf_300, zf_1000, zf_1023, zf_1024, zf_1600, zf_3840, zf_25600, zf_36000, zf_1000000, zf_1000000000, zf_2000000000, zf_11560, za_1, za_2, za_4, za_5, za_6, za_7, za_8, za_9, za_10, za_11, za_12, za_14, za_15, za_22, za_23, za_25, za_26, za_27, za_28, za_29, za_30, za_31, za_32, za_33, za_34, za_35, za_41, za_42, za_43, za_44, za_45, za_46, za_47, za_48, za_49, za_61, za_62, za_63, za_64, za_65, za_71, za_72, za_73, za_74, za_75, za_76, za_77, za_78, za_79, za_80, za_81, za_82, za_83, za_84, za_85, za_86, za_87, za_88, za_89, za_90, za_91, za_92, za_93, za_94, za_95, za_96, za_97, za_98, za_99, za_100, za_101, za_102, za_103, za_104, za_105, za_106, za_107, za_108, e72, e702, bI_f, ei, c1]
            rw [cal_t hend]
            simp (disch := omega) only [zi_t, zi_f, bnd_t, zg_in, zx, nI_ltI, nI_leI, nI_eq, nI_add, pk_mul, pk_sub, mup_s, mup_c, mup_j, mrw_c, if_pos, if_neg, zm_1, zm_2, zm_3, zm_4, zm_5, zm_6, zm_7, zm_8, zm_9, zf_0, zf_1, zf_2, zf_3, zf_4, zf_5, zf_6, zf_7, zf_8, zf_9, zf_10, zf_14, zf_15, zf_16, zf_18, zf_19, zf_20, zf_24, zf_30, zf_31, zf_32, zf_33, zf_99, zf_100, zf_160, zf_200, zf_287, zf_288, zf_300, zf_1000, zf_1023, zf_1024, zf_1600, zf_3840, zf_25600, zf_36000, zf_1000000, zf_1000000000, zf_2000000000, zf_11560, za_1, za_2, za_4, za_5, za_6, za_7, za_8, za_9, za_10, za_11, za_12, za_14, za_15, za_22, za_23, za_25, za_26, za_27, za_28, za_29, za_30, za_31, za_32, za_33, za_34, za_35, za_41, za_42, za_43, za_44, za_45, za_46, za_47, za_48, za_49, za_61, za_62, za_63, za_64, za_65, za_71, za_72, za_73, za_74, za_75, za_76, za_77, za_78, za_79, za_80, za_81, za_82, za_83, za_84, za_85, za_86, za_87, za_88, za_89, za_90, za_91, za_92, za_93, za_94, za_95, za_96, za_97, za_98, za_99, za_100, za_101, za_102, za_103, za_104, za_105, za_106, za_107, za_108, bI_f]
        | true =>
          rw [hf, decide_eq_true hs, Bool.and_true] at hend
          refine ⟨true, ⟨fun _ => ⟨s, by omega, hf, c1⟩, fun _ => rfl⟩, ?_⟩
          simp (disch := omega) only [zi_t, zi_f, bnd_t, zg_in, zx, nI_ltI, nI_leI, nI_eq, nI_add, pk_mul, pk_sub, mup_s, mup_c, mup_j, mrw_c, if_pos, if_neg, zm_1, zm_2, zm_3, zm_4, zm_5, zm_6, zm_7, zm_8, zm_9, zf_0, zf_1, zf_2, zf_3, zf_4, zf_5, zf_6, zf_7, zf_8, zf_9, zf_10, zf_14, zf_15, zf_16, zf_18, zf_19, zf_20, zf_24, zf_30, zf_31, zf_32, zf_33, zf_99, zf_100, zf_160, zf_200, zf_287, zf_288, zf_300, zf_1000, zf_1023, zf_1024, zf_1600, zf_3840, zf_25600, zf_36000, zf_1000000, zf_1000000000, zf_2000000000, zf_11560, za_1, za_2, za_4, za_5, za_6, za_7, za_8, za_9, za_10, za_11, za_12, za_14, za_15, za_22, za_23, za_25, za_26, za_27, za_28, za_29, za_30, za_31, za_32, za_33, za_34, za_35, za_41, za_42, za_43, za_44, za_45, za_46, za_47, za_48, za_49, za_61, za_62, za_63, za_64, za_65, za_71, za_72, za_73, za_74, za_75, za_76, za_77, za_78, za_79, za_80, za_81, za_82, za_83, za_84, za_85, za_86, za_87, za_88, za_89, za_90, za_91, za_92, za_93, za_94, za_95, za_96, za_97, za_98, za_99, za_100, za_101, za_102, za_103, za_104, za_105, za_106, za_107, za_108, e72, e702, bI_f, ei, c1]
          rw [cal_t hend]
          simp (disch := omega) only [zi_t, zi_f, bnd_t, zg_in, zx, nI_ltI, nI_leI, nI_eq, nI_add, pk_mul, pk_sub, mup_s, mup_c, mup_j, mrw_c, if_pos, if_neg, zm_1, zm_2, zm_3, zm_4, zm_5, zm_6, zm_7, zm_8, zm_9, zf_0, zf_1, zf_2, zf_3, zf_4, zf_5, zf_6, zf_7, zf_8, zf_9, zf_10, zf_14, zf_15, zf_16, zf_18, zf_19, zf_20, zf_24, zf_30, zf_31, zf_32, zf_33, zf_99, zf_100, zf_160, zf_200, zf_287, zf_288, zf_300, zf_1000, zf_1023, zf_1024, zf_1600, zf_3840, zf_25600, zf_36000, zf_1000000, zf_1000000000, zf_2000000000, zf_11560, za_1, za_2, za_4, za_5, za_6, za_7, za_8, za_9, za_10, za_11, za_12, za_14, za_15, za_22, za_23, za_25, za_26, za_27, za_28, za_29, za_30, za_31, za_32, za_33, za_34, za_35, za_41, za_42, za_43, za_44, za_45, za_46, za_47, za_48, za_49, za_61, za_62, za_63, za_64, za_65, za_71, za_72, za_73, za_74, za_75, za_76, za_77, za_78, za_79, za_80, za_81, za_82, za_83, za_84, za_85, za_86, za_87, za_88, za_89, za_90, za_91, za_92, za_93, za_94, za_95, za_96, za_97, za_98, za_99, za_100, za_101, za_102, za_103, za_104, za_105, za_106, za_107, za_108, bI_t]
  · rintro g fl hI
    have hI : fl = true ↔ ∃ t, t < n ∧ f t = true ∧ At m d (32 * w.length + t) := hI
    refine ⟨fl, ?_, hI.trans ?_⟩
    · show S_X8_isAnswer_5 N (L_X8_isAnswer_5 N g) m (nI i) (nI d) (bI fl) (nI n) = _
      unfold S_X8_isAnswer_5
      simp (disch := omega) only [zi_t, zi_f, bnd_t, zg_in, zx, nI_ltI, nI_leI, nI_eq, nI_add, pk_mul, pk_sub, mup_s, mup_c, mup_j, mrw_c, if_pos, if_neg, zm_1, zm_2, zm_3, zm_4, zm_5, zm_6, zm_7, zm_8, zm_9, zf_0, zf_1, zf_2, zf_3, zf_4, zf_5, zf_6, zf_7, zf_8, zf_9, zf_10, zf_14, zf_15, zf_16, zf_18, zf_19, zf_20, zf_24, zf_30, zf_31, zf_32, zf_33, zf_99, zf_100, zf_160, zf_200, zf_287, zf_288, zf_300, zf_1000, zf_1023, zf_1024, zf_1600, zf_3840, zf_25600, zf_36000, zf_1000000, zf_1000000000, zf_2000000000, zf_11560, za_1, za_2, za_4, za_5, za_6, za_7, za_8, za_9, za_10, za_11, za_12, za_14, za_15, za_22, za_23, za_25, za_26, za_27, za_28, za_29, za_30, za_31, za_32, za_33, za_34, za_35, za_41, za_42, za_43, za_44, za_45, za_46, za_47, za_48, za_49, za_61, za_62, za_63, za_64, za_65, za_71, za_72, za_73, za_74, za_75, za_76, za_77, za_78, za_79, za_80, za_81, za_82, za_83, za_84, za_85, za_86, za_87, za_88, za_89, za_90, za_91, za_92, za_93, za_94, za_95, za_96, za_97, za_98, za_99, za_100, za_101, za_102, za_103, za_104, za_105, za_106, za_107, za_108, e72, gd_t (bI_isb' fl)]
    · constructor
      · rintro ⟨t, t1, t2, t3⟩; exact ⟨t, t1, t2, by omega, t3⟩
      · rintro ⟨t, t1, t2, _, t3⟩; exact ⟨t, t1, t2, t3⟩
def RwA (m : Mem) (d : Nat) (K : Nat → Prop) : Prop := Bo m d ∧ ∀ a, a < 288 → (At m d a ↔ K a)
theorem RwA.cg {m m' : Mem} {d : Nat} {K : Nat → Prop} (h : RwA m d K) (hf : ∀ j, j < 288 * (d + 1) → m' 102 j = m 102 j) : RwA m' d K :=
  ⟨fun a ha => by rw [hf _ (by omega)]; exact h.1 a ha, fun a ha => by unfold At; rw [hf _ (by omega)]; exact h.2 a ha⟩
theorem RwA.inr {m : Mem} {d n : Nat} {w : List Nat} {K : Nat → Prop} (h : RwA m d K) (hK : KN n w K) (hn : n ≤ 32) (hwl : w.length ≤ 8) (a : Nat) : InR m d a ↔ K a := by
  constructor
  · rintro ⟨ha, hA⟩; exact (h.2 a ha).mp hA
  · intro ha
    have := hK a ha
    have hlt : a < 288 := by omega
    exact ⟨hlt, (h.2 a hlt).mpr ha⟩
theorem nxk_cg {way x : Nat} {L : ArL} {w : List Nat} {δ : Nat → Nat} {ch : Bool} {C C' : Nat → Prop} (h : ∀ a, C a ↔ C' a) (b : Nat) : NxK way L w δ ch x C b ↔ NxK way L w δ ch x C' b := by
  constructor
  · rintro ⟨a, ha, hs⟩; exact ⟨a, (h a).mp ha, hs⟩
  · rintro ⟨a, ha, hs⟩; exact ⟨a, (h a).mpr ha, hs⟩
def FM (way : Nat) (L : ArL) (w : List Nat) (δ : Nat → Nat) (m : Mem) : List Nat → Nat → Prop
  | [] => fun x => RwA m 0 (CpR way L w δ false []) ∧ m 103 0 = pI x
  | y :: ρ => fun x => RwA m (ρ.length + 1) (CpR way L w δ false (y :: ρ)) ∧ m 103 (ρ.length + 1) = pI x ∧ m 104 ρ.length = nI y ∧ FM way L w δ m ρ (y + 1)
theorem FM.cg {way : Nat} {L : ArL} {w : List Nat} {δ : Nat → Nat} {m m' : Mem} : ∀ {ρ : List Nat} {x : Nat}, FM way L w δ m ρ x → (∀ j, j < 288 * (ρ.length + 1) → m' 102 j = m 102 j) → (∀ j, j < ρ.length + 1 → m' 103 j = m 103 j) → (∀ j, j < ρ.length → m' 104 j = m 104 j) → FM way L w δ m' ρ x
  | [], x, h, h1, h2, h3 => ⟨h.1.cg h1, by rw [h2 0 (by show 0 < 0 + 1; omega)]; exact h.2⟩
  | y :: ρ, x, h, h1, h2, h3 => by
    have e : (y :: ρ).length = ρ.length + 1 := rfl
    rw [e] at h1 h2 h3
    obtain ⟨a, b, c, d⟩ := h
    exact ⟨a.cg h1, by rw [h2 _ (by omega)]; exact b, by rw [h3 _ (by omega)]; exact c, FM.cg d (fun j hj => h1 j (by omega)) (fun j hj => h2 j (by omega)) (fun j hj => h3 j (by omega))⟩
theorem FM.set {way : Nat} {L : ArL} {w : List Nat} {δ : Nat → Nat} {m m' : Mem} {ρ : List Nat} {x x' : Nat} (h : FM way L w δ m ρ x) (h1 : ∀ j, j < 288 * (ρ.length + 1) → m' 102 j = m 102 j) (h2 : ∀ j, j < ρ.length → m' 103 j = m 103 j) (hx : m' 103 ρ.length = pI x') (h3 : ∀ j, j < ρ.length → m' 104 j = m 104 j) : FM way L w δ m' ρ x' := by
  cases ρ with
  | nil => exact ⟨h.1.cg h1, hx⟩
  | cons y ρ =>
    have e : (y :: ρ).length = ρ.length + 1 := rfl
    rw [e] at h1 h2 h3 hx
    obtain ⟨a, b, c, d⟩ := h
    exact ⟨a.cg h1, hx, by rw [h3 _ (by omega)]; exact c, FM.cg d (fun j hj => h1 j (by omega)) (fun j hj => h2 j (by omega)) (fun j hj => h3 j (by omega))⟩
theorem FM.row {way : Nat} {L : ArL} {w : List Nat} {δ : Nat → Nat} {m : Mem} {ρ : List Nat} {x : Nat} (h : FM way L w δ m ρ x) : RwA m ρ.length (CpR way L w δ false ρ) ∧ m 103 ρ.length = pI x := by
  cases ρ with
  | nil => exact h
  | cons y ρ => exact ⟨h.1, h.2.1⟩
def PM (m : Mem) : List Nat → Prop
  | [] => True
  | y :: ρ => m 104 ρ.length = nI y ∧ PM m ρ
theorem FM.pm {way : Nat} {L : ArL} {w : List Nat} {δ : Nat → Nat} {m : Mem} : ∀ {ρ : List Nat} {x : Nat}, FM way L w δ m ρ x → PM m ρ
  | [], _, _ => trivial
  | _ :: _, _, h => ⟨h.2.2.1, FM.pm h.2.2.2⟩
theorem PM.cg {m m' : Mem} : ∀ {ρ : List Nat}, PM m ρ → (∀ j, j < ρ.length → m' 104 j = m 104 j) → PM m' ρ
  | [], _, _ => trivial
  | y :: ρ, h, hf => ⟨by rw [hf _ (by show ρ.length < ρ.length + 1; omega)]; exact h.1, PM.cg h.2 (fun j hj => hf j (by show j < ρ.length + 1; omega))⟩
theorem pI_inc (t : Nat) : pI t + nI 1 = nI t := by
  cases t with
  | zero => decide
  | succ t => exact nI_add t 1
/-- what a walk ends with -/
theorem walk_inv {vi an : List Nat → Bool} {S : Nat} (h3 : ∀ y ρ, vi (y :: ρ) = true → vi ρ = true) : ∀ F ρ x k res, walk vi an S F ρ x k = some res → vi ρ = true → k ≤ S → vi res.2 = true ∧ res.1 ≤ S ∧ k ≤ res.1 := by
  intro F
  induction F with
  | zero => intro ρ x k res h; cases h
  | succ F ih =>
    intro ρ x k res h hv hk
    rw [walk_s] at h
    by_cases c : S ≤ k
    · rw [if_pos c] at h
      have e := Option.some.inj h
      rw [← e]
      exact ⟨hv, hk, Nat.le_refl _⟩
    · rw [if_neg c] at h
      by_cases c8 : x < 8
      · rw [if_pos c8] at h
        cases hd : vi (x :: ρ) with
        | true =>
          rw [hd, if_pos rfl] at h
          cases ha : an (x :: ρ) with
          | true =>
            rw [ha, if_pos rfl] at h
            obtain ⟨r1, r2, r3⟩ := ih _ _ _ _ h hd (by omega)
            exact ⟨r1, r2, by omega⟩
          | false =>
            rw [ha, if_neg (by simp)] at h
            exact ih _ _ _ _ h hd (by omega)
        | false =>
          rw [hd, if_neg (by simp)] at h
          exact ih _ _ _ _ h hv hk
      · rw [if_neg c8] at h
        cases ρ with
        | nil =>
          have e := Option.some.inj h
          rw [← e]
          exact ⟨hv, hk, Nat.le_refl _⟩
        | cons y ρ => exact ih _ _ _ _ h (h3 y ρ hv) hk
theorem mo_ansLoop {N i n last S : Nat} {u : Bool} {f : Nat → Bool} {L : ArL} {w : List Nat} {δ : Nat → Nat} {vi an : List Nat → Bool} (hN : 40000 < N) (hG : GD i n L w) (hv : WV vi an) (hvi : ∀ ρ, vi ρ = true ↔ ∃ b, SdR (wU u) L w δ false ρ b) (han : ∀ ρ, an ρ = true ↔ AnK n f w (CpR (wU u) L w δ false ρ)) (hS : S = last + 1) (hlast : last < 20) :
    ∀ F ρ x k g m res, walk vi an S F ρ x k = some res → MLk m i n f L w δ → FM (wU u) L w δ m ρ x → vi ρ = true → (∀ z, z ∈ ρ → z < 8) → x ≤ 8 → k ≤ S → F + 2 ≤ g →
      ∃ m', L_X8_answersTo_65 N g m (nI i) (bI u) (nI last) (nI ρ.length) (nI k) = some (nI res.1, m') ∧ Fx 102 105 [42] m m' ∧ (S ≤ res.1 → m' 70 42 = nI res.2.length ∧ PM m' res.2) := by
  have hG' := hG
  obtain ⟨hi, hok, hl, hn, hwl, hwx, h1n⟩ := hG'
  intro F
  induction F with
  | zero => intro ρ x k g m res h; cases h
  | succ F ih =>
    intro ρ x k g m res hw hM hF hv0 h8 hx hk hg
    obtain ⟨g, rfl⟩ : ∃ g', g = g' + 1 := ⟨g - 1, by omega⟩
    have hlen := hv.1 ρ hv0
    rw [walk_s] at hw
    show ∃ m', S_X8_answersTo_65 N (L_X8_answersTo_65 N g) m (nI i) (bI u) (nI last) (nI ρ.length) (nI k) = _ ∧ _
    by_cases cS : S ≤ k
    · rw [if_pos cS] at hw
      have e := Option.some.inj hw
      rw [← e]
      refine ⟨mup m 70 42 (nI ρ.length), ?_, Fx.rf.sl (by simp), fun _ => ⟨mup_s _ _ _ _, hF.pm.cg (fun j _ => mup_c (by omega))⟩⟩
      unfold S_X8_answersTo_65 B_X8_answersTo_171
      simp (disch := omega) only [zi_t, zi_f, bnd_t, zg_in, zx, nI_ltI, nI_leI, nI_eq, nI_add, pk_mul, pk_sub, mup_s, mup_c, mup_j, mrw_c, if_pos, if_neg, zm_1, zm_2, zm_3, zm_4, zm_5, zm_6, zm_7, zm_8, zm_9, zf_0, zf_1, zf_2, zf_3, zf_4, zf_5, zf_6, zf_7, zf_8, zf_9, zf_10, zf_14, zf_15, zf_16, zf_18, zf_19, zf_20, zf_24, zf_30, zf_31, zf_32, zf_33, zf_99, zf_100, zf_160, zf_200, zf_287, zf_288, zf_300, zf_1000, zf_1023, zf_1024, zf_1600, zf_3840, zf_25600, zf_36000, zf_1000000, zf_1000000000, zf_2000000000, zf_11560, za_1, za_2, za_4, za_5, za_6, za_7, za_8, za_9, za_10, za_11, za_12, za_14, za_15, za_22, za_23, za_25, za_26, za_27, za_28, za_29, za_30, za_31, za_32, za_33, za_34, za_35, za_41, za_42, za_43, za_44, za_45, za_46, za_47, za_48, za_49, za_61, za_62, za_63, za_64, za_65, za_71, za_72, za_73, za_74, za_75, za_76, za_77, za_78, za_79, za_80, za_81, za_82, za_83, za_84, za_85, za_86, za_87, za_88, za_89, za_90, za_91, za_92, za_93, za_94, za_95, za_96, za_97, za_98, za_99, za_100, za_101, za_102, za_103, za_104, za_105, za_106, za_107, za_108]
    · rw [if_neg cS] at hw
      obtain ⟨hrow, h103⟩ := hF.row
      obtain ⟨m1, hm1⟩ : ∃ m1, m1 = mup m 103 ρ.length (nI x) := ⟨_, rfl⟩
      have o1 : Fx 102 105 [42] m m1 := by rw [hm1]; exact Fx.rf.up (by omega) (by omega) (by omega)
      have hM1 : MLk m1 i n f L w δ := hM.cg (fun c a b => by rw [hm1, mup_r (by omega)]) (by rw [hm1, mup_c (by omega)])
      have hF1 : FM (wU u) L w δ m1 ρ (x + 1) := hF.set (fun j _ => by rw [hm1, mup_c (by omega)]) (fun j hj => by rw [hm1, mup_j (by omega)]) (by rw [hm1, mup_s]; rfl) (fun j _ => by rw [hm1, mup_c (by omega)])
      have e103 : m1 103 ρ.length = nI x := by rw [hm1, mup_s]
      have einc : m 103 ρ.length + nI 1 = nI x := by rw [h103, pI_inc]
      by_cases c8 : x < 8
      · rw [if_pos c8] at hw
        have hKN := clo_kn (way := wU u) (δ := δ) (ch := false) hok hn (sdr_kn (way := wU u) (δ := δ) (ch := false) (w := w) hok hn h1n ρ)
        have hrow1 := (hF1.row).1
        have hin := hrow1.inr hKN hn hwl
        obtain ⟨b, m2, g1, g2, g3, g4⟩ := mo_goesBy (N := N) (u := u) (d := ρ.length) (x := x) hN hG hM1 (by omega) hrow1.1 c8
        have hbv : b = vi (x :: ρ) := by
          rw [Bool.eq_iff_iff, g3, hvi (x :: ρ)]
          constructor
          · rintro ⟨y, hy⟩; exact ⟨y, (nxk_cg hin y).mp hy⟩
          · rintro ⟨y, hy⟩; exact ⟨y, (nxk_cg hin y).mpr hy⟩
        have o2 : Fx 102 105 [42] m1 m2 := ⟨fun c c1 c2 => g2.1 c (by omega), fun j _ => by rw [g2.1 70 (by omega)]⟩
        have hM2 := hM1.ow g2
        have hF2 : FM (wU u) L w δ m2 ρ (x + 1) := hF1.cg (fun j hj => g2.2 j (by omega)) (fun j _ => by rw [g2.1 103 (by omega)]) (fun j _ => by rw [g2.1 104 (by omega)])
        cases hd : vi (x :: ρ) with
        | false =>
          rw [hd, if_neg (by simp)] at hw
          rw [hd] at hbv
          rw [hbv] at g1
          obtain ⟨m', r1, r2, r3⟩ := ih ρ (x + 1) k g m2 res hw hM2 hF2 hv0 h8 (by omega) hk (by omega)
          refine ⟨m', ?_, (o1.tr o2).tr r2, r3⟩
          unfold S_X8_answersTo_65
          simp (disch := omega) only [zi_t, zi_f, bnd_t, zg_in, zx, nI_ltI, nI_leI, nI_eq, nI_add, pk_mul, pk_sub, mup_s, mup_c, mup_j, mrw_c, if_pos, if_neg, zm_1, zm_2, zm_3, zm_4, zm_5, zm_6, zm_7, zm_8, zm_9, zf_0, zf_1, zf_2, zf_3, zf_4, zf_5, zf_6, zf_7, zf_8, zf_9, zf_10, zf_14, zf_15, zf_16, zf_18, zf_19, zf_20, zf_24, zf_30, zf_31, zf_32, zf_33, zf_99, zf_100, zf_160, zf_200, zf_287, zf_288, zf_300, zf_1000, zf_1023, zf_1024, zf_1600, zf_3840, zf_25600, zf_36000, zf_1000000, zf_1000000000, zf_2000000000, zf_11560, za_1, za_2, za_4, za_5, za_6, za_7, za_8, za_9, za_10, za_11, za_12, za_14, za_15, za_22, za_23, za_25, za_26, za_27, za_28, za_29, za_30, za_31, za_32, za_33, za_34, za_35, za_41, za_42, za_43, za_44, za_45, za_46, za_47, za_48, za_49, za_61, za_62, za_63, za_64, za_65, za_71, za_72, za_73, za_74, za_75, za_76, za_77, za_78, za_79, za_80, za_81, za_82, za_83, za_84, za_85, za_86, za_87, za_88, za_89, za_90, za_91, za_92, za_93, za_94, za_95, za_96, za_97, za_98, za_99, za_100, za_101, za_102, za_103, za_104, za_105, za_106, za_107, za_108, einc]
          rw [← hm1]
          try simp (disch := omega) only [zi_t, zi_f, bnd_t, zg_in, zx, nI_ltI, nI_leI, nI_eq, nI_add, pk_mul, pk_sub, mup_s, mup_c, mup_j, mrw_c, if_pos, if_neg, zm_1, zm_2, zm_3, zm_4, zm_5, zm_6, zm_7, zm_8, zm_9, zf_0, zf_1, zf_2, zf_3, zf_4, zf_5, zf_6, zf_7, zf_8, zf_9, zf_10, zf_14, zf_15, zf_16, zf_18, zf_19, zf_20, zf_24, zf_30, zf_31, zf_32, zf_33, zf_99, zf_100, zf_160, zf_200, zf_287, zf_288, zf_300, zf_1000, zf_1023, zf_1024, zf_1600, zf_3840, zf_25600, zf_36000, zf_1000000, zf_1000000000, zf_2000000000, zf_11560, za_1, za_2, za_4, za_5, za_6, za_7, za_8, za_9, za_10, za_11, za_12, za_14, za_15, za_22, za_23, za_25, za_26, za_27, za_28, za_29, za_30, za_31, za_32, za_33, za_34, za_35, za_41, za_42, za_43, za_44, za_45, za_46, za_47, za_48, za_49, za_61, za_62, za_63, za_64, za_65, za_71, za_72, za_73, za_74, za_75, za_76, za_77, za_78, za_79, za_80, za_81, za_82, za_83, za_84, za_85, za_86, za_87, za_88, za_89, za_90, za_91, za_92, za_93, za_94, za_95, za_96, za_97, za_98, za_99, za_100, za_101, za_102, za_103, za_104, za_105, za_106, za_107, za_108, e103]
          rw [cal_t g1]
          simp (disch := omega) only [zi_t, zi_f, bnd_t, zg_in, zx, nI_ltI, nI_leI, nI_eq, nI_add, pk_mul, pk_sub, mup_s, mup_c, mup_j, mrw_c, if_pos, if_neg, zm_1, zm_2, zm_3, zm_4, zm_5, zm_6, zm_7, zm_8, zm_9, zf_0, zf_1, zf_2, zf_3, zf_4, zf_5, zf_6, zf_7, zf_8, zf_9, zf_10, zf_14, zf_15, zf_16, zf_18, zf_19, zf_20, zf_24, zf_30, zf_31, zf_32, zf_33, zf_99, zf_100, zf_160, zf_200, zf_287, zf_288, zf_300, zf_1000, zf_1023, zf_1024, zf_1600, zf_3840, zf_25600, zf_36000, zf_1000000, zf_1000000000, zf_2000000000, zf_11560, za_1, za_2, za_4, za_5, za_6, za_7, za_8, za_9, za_10, za_11, za_12, za_14, za_15, za_22, za_23, za_25, za_26, za_27, za_28, za_29, za_30, za_31, za_32, za_33, za_34, za_35, za_41, za_42, za_43, za_44, za_45, za_46, za_47, za_48, za_49, za_61, za_62, za_63, za_64, za_65, za_71, za_72, za_73, za_74, za_75, za_76, za_77, za_78, za_79, za_80, za_81, za_82, za_83, za_84, za_85, za_86, za_87, za_88, za_89, za_90, za_91, za_92, za_93, za_94, za_95, za_96, za_97, za_98, za_99, za_100, za_101, za_102, za_103, za_104, za_105, za_106, za_107, za_108, bI_f]
          exact r1
        | true =>
          rw [hd, if_pos rfl] at hw
          rw [hd] at hbv
          rw [hbv] at g1
          obtain ⟨b2, b3⟩ := g4 hbv
          have hlen2 : ρ.length + 1 ≤ 287 := hv.1 _ hd
          have e103' : m2 103 ρ.length = nI x := by rw [g2.1 103 (by omega)]; exact e103
          obtain ⟨m3, hm3⟩ : ∃ m3, m3 = mup (mup m2 104 ρ.length (nI x)) 103 (ρ.length + 1) nM := ⟨_, rfl⟩
          have o3 : Fx 102 105 [42] m2 m3 := by rw [hm3]; exact (Fx.rf.up (by omega) (by omega) (by omega)).up (by omega) (by omega) (by omega)
          have hM3 : MLk m3 i n f L w δ := hM2.cg (fun c a b => by rw [hm3, mup_r (by omega), mup_r (by omega)]) (by rw [hm3, mup_c (by omega), mup_c (by omega)])
          have hra : RwA m3 (ρ.length + 1) (CpR (wU u) L w δ false (x :: ρ)) := by
            have hr2 : RwA m2 (ρ.length + 1) (CpR (wU u) L w δ false (x :: ρ)) := ⟨b2, fun a ha => (b3 a ha).trans (clo_cg (nxk_cg hin) a)⟩
            exact hr2.cg (fun j _ => by rw [hm3, mup_c (by omega), mup_c (by omega)])
          have hF3 : FM (wU u) L w δ m3 (x :: ρ) 0 := by
            refine ⟨hra, ?_, ?_, ?_⟩
            · rw [hm3, mup_s]; rfl
            · rw [hm3, mup_c (by omega), mup_s]
            · exact hF2.cg (fun j _ => by rw [hm3, mup_c (by omega), mup_c (by omega)]) (fun j hj => by rw [hm3, mup_j (by omega), mup_c (by omega)]) (fun j hj => by rw [hm3, mup_c (by omega), mup_j (by omega)])
          obtain ⟨b4, k1, k2⟩ := mo_isAnswer (N := N) (d := ρ.length + 1) hN hG hM3 (by omega) hra.1
          have hKN2 := clo_kn (way := wU u) (δ := δ) (ch := false) hok hn (sdr_kn (way := wU u) (δ := δ) (ch := false) (w := w) hok hn h1n (x :: ρ))
          have hin2 := hra.inr hKN2 hn hwl
          have hban : b4 = an (x :: ρ) := by
            rw [Bool.eq_iff_iff, k2, han (x :: ρ)]
            constructor
            · rintro ⟨t, t1, t2, t3⟩; exact ⟨t, t1, t2, (hin2 _).mp t3⟩
            · rintro ⟨t, t1, t2, t3⟩; exact ⟨t, t1, t2, (hin2 _).mpr t3⟩
          have hstep : S_X8_answersTo_65 N (L_X8_answersTo_65 N g) m (nI i) (bI u) (nI last) (nI ρ.length) (nI k) = L_X8_answersTo_65 N g m3 (nI i) (bI u) (nI last) (nI (ρ.length + 1)) (nI (if b4 = true then k + 1 else k)) := by
            unfold S_X8_answersTo_65 B_X8_answersTo_165
            simp (disch := omega) only [zi_t, zi_f, bnd_t, zg_in, zx, nI_ltI, nI_leI, nI_eq, nI_add, pk_mul, pk_sub, mup_s, mup_c, mup_j, mrw_c, if_pos, if_neg, zm_1, zm_2, zm_3, zm_4, zm_5, zm_6, zm_7, zm_8, zm_9, zf_0, zf_1, zf_2, zf_3, zf_4, zf_5, zf_6, zf_7, zf_8, zf_9, zf_10, zf_14, zf_15, zf_16, zf_18, zf_19, zf_20, zf_24, zf_30, zf_31, zf_32, zf_33, zf_99, zf_100, zf_160, zf_200, zf_287, zf_288, zf_300, zf_1000, zf_1023, zf_1024, zf_1600, zf_3840, zf_25600, zf_36000, zf_1000000, zf_1000000000, zf_2000000000, zf_11560, za_1, za_2, za_4, za_5, za_6, za_7, za_8, za_9, za_10, za_11, za_12, za_14, za_15, za_22, za_23, za_25, za_26, za_27, za_28, za_29, za_30, za_31, za_32, za_33, za_34, za_35, za_41, za_42, za_43, za_44, za_45, za_46, za_47, za_48, za_49, za_61, za_62, za_63, za_64, za_65, za_71, za_72, za_73, za_74, za_75, za_76, za_77, za_78, za_79, za_80, za_81, za_82, za_83, za_84, za_85, za_86, za_87, za_88, za_89, za_90, za_91, za_92, za_93, za_94, za_95, za_96, za_97, za_98, za_99, za_100, za_101, za_102, za_103, za_104, za_105, za_106, za_107, za_108, einc]
            rw [← hm1]
            try simp (disch := omega) only [zi_t, zi_f, bnd_t, zg_in, zx, nI_ltI, nI_leI, nI_eq, nI_add, pk_mul, pk_sub, mup_s, mup_c, mup_j, mrw_c, if_pos, if_neg, zm_1, zm_2, zm_3, zm_4, zm_5, zm_6, zm_7, zm_8, zm_9, zf_0, zf_1, zf_2, zf_3, zf_4, zf_5, zf_6, zf_7, zf_8, zf_9, zf_10, zf_14, zf_15, zf_16, zf_18, zf_19, zf_20, zf_24, zf_30, zf_31, zf_32, zf_33, zf_99, zf_100, zf_160, zf_200, zf_287, zf_288, zf_300, zf_1000, zf_1023, zf_1024, zf_1600, zf_3840, zf_25600, zf_36000, zf_1000000, zf_1000000000, zf_2000000000, zf_11560, za_1, za_2, za_4, za_5, za_6, za_7, za_8, za_9, za_10, za_11, za_12, za_14, za_15, za_22, za_23, za_25, za_26, za_27, za_28, za_29, za_30, za_31, za_32, za_33, za_34, za_35, za_41, za_42, za_43, za_44, za_45, za_46, za_47, za_48, za_49, za_61, za_62, za_63, za_64, za_65, za_71, za_72, za_73, za_74, za_75, za_76, za_77, za_78, za_79, za_80, za_81, za_82, za_83, za_84, za_85, za_86, za_87, za_88, za_89, za_90, za_91, za_92, za_93, za_94, za_95, za_96, za_97, za_98, za_99, za_100, za_101, za_102, za_103, za_104, za_105, za_106, za_107, za_108, e103]
            rw [cal_t g1]
            simp (disch := omega) only [zi_t, zi_f, bnd_t, zg_in, zx, nI_ltI, nI_leI, nI_eq, nI_add, pk_mul, pk_sub, mup_s, mup_c, mup_j, mrw_c, if_pos, if_neg, zm_1, zm_2, zm_3, zm_4, zm_5, zm_6, zm_7, zm_8, zm_9, zf_0, zf_1, zf_2, zf_3, zf_4, zf_5, zf_6, zf_7, zf_8, zf_9, zf_10, zf_14, zf_15, zf_16, zf_18, zf_19, zf_20, zf_24, zf_30, zf_31, zf_32, zf_33, zf_99, zf_100, zf_160, zf_200, zf_287, zf_288, zf_300, zf_1000, zf_1023, zf_1024, zf_1600, zf_3840, zf_25600, zf_36000, zf_1000000, zf_1000000000, zf_2000000000, zf_11560, za_1, za_2, za_4, za_5, za_6, za_7, za_8, za_9, za_10, za_11, za_12, za_14, za_15, za_22, za_23, za_25, za_26, za_27, za_28, za_29, za_30, za_31, za_32, za_33, za_34, za_35, za_41, za_42, za_43, za_44, za_45, za_46, za_47, za_48, za_49, za_61, za_62, za_63, za_64, za_65, za_71, za_72, za_73, za_74, za_75, za_76, za_77, za_78, za_79, za_80, za_81, za_82, za_83, za_84, za_85, za_86, za_87, za_88, za_89, za_90, za_91, za_92, za_93, za_94, za_95, za_96, za_97, za_98, za_99, za_100, za_101, za_102, za_103, za_104, za_105, za_106, za_107, za_108, bI_t, e103']
            rw [← hm3, cal_t k1]
            cases b4 with
            | true => simp (disch := omega) only [zi_t, zi_f, bnd_t, zg_in, zx, nI_ltI, nI_leI, nI_eq, nI_add, pk_mul, pk_sub, mup_s, mup_c, mup_j, mrw_c, if_pos, if_neg, zm_1, zm_2, zm_3, zm_4, zm_5, zm_6, zm_7, zm_8, zm_9, zf_0, zf_1, zf_2, zf_3, zf_4, zf_5, zf_6, zf_7, zf_8, zf_9, zf_10, zf_14, zf_15, zf_16, zf_18, zf_19, zf_20, zf_24, zf_30, zf_31, zf_32, zf_33, zf_99, zf_100, zf_160, zf_200, zf_287, zf_288, zf_300, zf_1000, zf_1023, zf_1024, zf_1600, zf_3840, zf_25600, zf_36000, zf_1000000, zf_1000000000, zf_2000000000, zf_11560, za_1, za_2, za_4, za_5, za_6, za_7, za_8, za_9, za_10, za_11, za_12, za_14, za_15, za_22, za_23, za_25, za_26, za_27, za_28, za_29, za_30, za_31, za_32, za_33, za_34, za_35, za_41, za_42, za_43, za_44, za_45, za_46, za_47, za_48, za_49, za_61, za_62, za_63, za_64, za_65, za_71, za_72, za_73, za_74, za_75, za_76, za_77, za_78, za_79, za_80, za_81, za_82, za_83, za_84, za_85, za_86, za_87, za_88, za_89, za_90, za_91, za_92, za_93, za_94, za_95, za_96, za_97, za_98, za_99, za_100, za_101, za_102, za_103, za_104, za_105, za_106, za_107, za_108, bI_t]
            | false => simp (disch := omega) only [zi_t, zi_f, bnd_t, zg_in, zx, nI_ltI, nI_leI, nI_eq, nI_add, pk_mul, pk_sub, mup_s, mup_c, mup_j, mrw_c, if_pos, if_neg, zm_1, zm_2, zm_3, zm_4, zm_5, zm_6, zm_7, zm_8, zm_9, zf_0, zf_1, zf_2, zf_3, zf_4, zf_5, zf_6, zf_7, zf_8, zf_9, zf_10, zf_14, zf_15, zf_16, zf_18, zf_19, zf_20, zf_24, zf_30, zf_31, zf_32, zf_33, zf_99, zf_100, zf_160, zf_200, zf_287, zf_288, zf_300, zf_1000, zf_1023, zf_1024, zf_1600, zf_3840, zf_25600, zf_36000, zf_1000000, zf_1000000000, zf_2000000000, zf_11560, za_1, za_2, za_4, za_5, za_6, za_7, za_8, za_9, za_10, za_11, za_12, za_14, za_15, za_22, za_23, za_25, za_26, za_27, za_28, za_29, za_30, za_31, za_32, za_33, za_34, za_35, za_41, za_42, za_43, za_44, za_45, za_46, za_47, za_48, za_49, za_61, za_62, za_63, za_64, za_65, za_71, za_72, za_73, za_74, za_75, za_76, za_77, za_78, za_79, za_80, za_81, za_82, za_83, za_84, za_85, za_86, za_87, za_88, za_89, za_90, za_91, za_92, za_93, za_94, za_95, za_96, za_97, za_98, za_99, za_100, za_101, za_102, za_103, za_104, za_105, za_106, za_107, za_108, bI_f]; rfl
          rw [hstep, hban]
          obtain ⟨m', r1, r2, r3⟩ := ih (x :: ρ) 0 (if an (x :: ρ) = true then k + 1 else k) g m3 res hw hM3 hF3 hd (fun z hz => by
            rcases List.mem_cons.mp hz with e | e
            · rw [e]; exact c8
            · exact h8 z e) (by omega) (by split <;> omega) (by omega)
          exact ⟨m', r1, ((o1.tr o2).tr o3).tr r2, r3⟩
      · rw [if_neg c8] at hw
        have ex : x = 8 := by omega
        rw [ex] at einc e103 hm1
        cases ρ with
        | nil =>
          have e := Option.some.inj hw
          rw [← e]
          obtain ⟨g, rfl⟩ : ∃ g', g = g' + 1 := ⟨g - 1, by omega⟩
          have einc : m 103 0 + nI 1 = nI 8 := einc
          have e103 : m1 103 0 = nI 8 := e103
          have hm1 : m1 = mup m 103 0 (nI 8) := hm1
          have ed : nI 0 + nM = nM := by decide
          refine ⟨mup m1 70 42 nM, ?_, o1.sl (by simp), fun h => absurd h cS⟩
          show S_X8_answersTo_65 N (L_X8_answersTo_65 N (g + 1)) m (nI i) (bI u) (nI last) (nI 0) (nI k) = _
          unfold S_X8_answersTo_65
          simp (disch := omega) only [zi_t, zi_f, bnd_t, zg_in, zx, nI_ltI, nI_leI, nI_eq, nI_add, pk_mul, pk_sub, mup_s, mup_c, mup_j, mrw_c, if_pos, if_neg, zm_1, zm_2, zm_3, zm_4, zm_5, zm_6, zm_7, zm_8, zm_9, zf_0, zf_1, zf_2, zf_3, zf_4, zf_5, zf_6, zf_7, zf_8, zf_9, zf_10, zf_14, zf_15, zf_16, zf_18, zf_19, zf_20, zf_24, zf_30, zf_31, zf_32, zf_33, zf_99, zf_100, zf_160, zf_200, zf_287, zf_288, zf_300, zf_1000, zf_1023, zf_1024, zf_1600, zf_3840, zf_25600, zf_36000, zf_1000000, zf_1000000000, zf_2000000000, zf_11560, za_1, za_2, za_4, za_5, za_6, za_7, za_8, za_9, za_10, za_11, za_12, za_14, za_15, za_22, za_23, za_25, za_26, za_27, za_28, za_29, za_30, za_31, za_32, za_33, za_34, za_35, za_41, za_42, za_43, za_44, za_45, za_46, za_47, za_48, za_49, za_61, za_62, za_63, za_64, za_65, za_71, za_72, za_73, za_74, za_75, za_76, za_77, za_78, za_79, za_80, za_81, za_82, za_83, za_84, za_85, za_86, za_87, za_88, za_89, za_90, za_91, za_92, za_93, za_94, za_95, za_96, za_97, za_98, za_99, za_100, za_101, za_102, za_103, za_104, za_105, za_106, za_107, za_108, einc]
          rw [← hm1]
          try simp (disch := omega) only [zi_t, zi_f, bnd_t, zg_in, zx, nI_ltI, nI_leI, nI_eq, nI_add, pk_mul, pk_sub, mup_s, mup_c, mup_j, mrw_c, if_pos, if_neg, zm_1, zm_2, zm_3, zm_4, zm_5, zm_6, zm_7, zm_8, zm_9, zf_0, zf_1, zf_2, zf_3, zf_4, zf_5, zf_6, zf_7, zf_8, zf_9, zf_10, zf_14, zf_15, zf_16, zf_18, zf_19, zf_20, zf_24, zf_30, zf_31, zf_32, zf_33, zf_99, zf_100, zf_160, zf_200, zf_287, zf_288, zf_300, zf_1000, zf_1023, zf_1024, zf_1600, zf_3840, zf_25600, zf_36000, zf_1000000, zf_1000000000, zf_2000000000, zf_11560, za_1, za_2, za_4, za_5, za_6, za_7, za_8, za_9, za_10, za_11, za_12, za_14, za_15, za_22, za_23, za_25, za_26, za_27, za_28, za_29, za_30, za_31, za_32, za_33, za_34, za_35, za_41, za_42, za_43, za_44, za_45, za_46, za_47, za_48, za_49, za_61, za_62, za_63, za_64, za_65, za_71, za_72, za_73, za_74, za_75, za_76, za_77, za_78, za_79, za_80, za_81, za_82, za_83, za_84, za_85, za_86, za_87, za_88, za_89, za_90, za_91, za_92, za_93, za_94, za_95, za_96, za_97, za_98, za_99, za_100, za_101, za_102, za_103, za_104, za_105, za_106, za_107, za_108, e103, ed]
          show S_X8_answersTo_65 N (L_X8_answersTo_65 N g) m1 (nI i) (bI u) (nI last) nM (nI k) = _
          unfold S_X8_answersTo_65 B_X8_answersTo_171
          simp (disch := omega) only [zi_t, zi_f, bnd_t, zg_in, zx, nI_ltI, nI_leI, nI_eq, nI_add, pk_mul, pk_sub, mup_s, mup_c, mup_j, mrw_c, if_pos, if_neg, zm_1, zm_2, zm_3, zm_4, zm_5, zm_6, zm_7, zm_8, zm_9, zf_0, zf_1, zf_2, zf_3, zf_4, zf_5, zf_6, zf_7, zf_8, zf_9, zf_10, zf_14, zf_15, zf_16, zf_18, zf_19, zf_20, zf_24, zf_30, zf_31, zf_32, zf_33, zf_99, zf_100, zf_160, zf_200, zf_287, zf_288, zf_300, zf_1000, zf_1023, zf_1024, zf_1600, zf_3840, zf_25600, zf_36000, zf_1000000, zf_1000000000, zf_2000000000, zf_11560, za_1, za_2, za_4, za_5, za_6, za_7, za_8, za_9, za_10, za_11, za_12, za_14, za_15, za_22, za_23, za_25, za_26, za_27, za_28, za_29, za_30, za_31, za_32, za_33, za_34, za_35, za_41, za_42, za_43, za_44, za_45, za_46, za_47, za_48, za_49, za_61, za_62, za_63, za_64, za_65, za_71, za_72, za_73, za_74, za_75, za_76, za_77, za_78, za_79, za_80, za_81, za_82, za_83, za_84, za_85, za_86, za_87, za_88, za_89, za_90, za_91, za_92, za_93, za_94, za_95, za_96, za_97, za_98, za_99, za_100, za_101, za_102, za_103, za_104, za_105, za_106, za_107, za_108]
        | cons y ρ =>
          have e : (y :: ρ).length = ρ.length + 1 := rfl
          rw [e] at einc e103 hm1 hlen ⊢
          have hd : nI (ρ.length + 1) + nM = nI ρ.length := pI_dec (ρ.length + 1)
          have hFt : FM (wU u) L w δ m1 ρ (y + 1) := hF1.2.2.2
          have hy : y < 8 := h8 y (List.mem_cons_self ..)
          obtain ⟨m', r1, r2, r3⟩ := ih ρ (y + 1) k g m1 res hw hM1 hFt (hv.2.2 y ρ hv0) (fun z hz => h8 z (List.mem_cons_of_mem _ hz)) (by omega) hk (by omega)
          refine ⟨m', ?_, o1.tr r2, r3⟩
          rw [← r1]
          unfold S_X8_answersTo_65
          simp (disch := omega) only [zi_t, zi_f, bnd_t, zg_in, zx, nI_ltI, nI_leI, nI_eq, nI_add, pk_mul, pk_sub, mup_s, mup_c, mup_j, mrw_c, if_pos, if_neg, zm_1, zm_2, zm_3, zm_4, zm_5, zm_6, zm_7, zm_8, zm_9, zf_0, zf_1, zf_2, zf_3, zf_4, zf_5, zf_6, zf_7, zf_8, zf_9, zf_10, zf_14, zf_15, zf_16, zf_18, zf_19, zf_20, zf_24, zf_30, zf_31, zf_32, zf_33, zf_99, zf_100, zf_160, zf_200, zf_287, zf_288, zf_300, zf_1000, zf_1023, zf_1024, zf_1600, zf_3840, zf_25600, zf_36000, zf_1000000, zf_1000000000, zf_2000000000, zf_11560, za_1, za_2, za_4, za_5, za_6, za_7, za_8, za_9, za_10, za_11, za_12, za_14, za_15, za_22, za_23, za_25, za_26, za_27, za_28, za_29, za_30, za_31, za_32, za_33, za_34, za_35, za_41, za_42, za_43, za_44, za_45, za_46, za_47, za_48, za_49, za_61, za_62, za_63, za_64, za_65, za_71, za_72, za_73, za_74, za_75, za_76, za_77, za_78, za_79, za_80, za_81, za_82, za_83, za_84, za_85, za_86, za_87, za_88, za_89, za_90, za_91, za_92, za_93, za_94, za_95, za_96, za_97, za_98, za_99, za_100, za_101, za_102, za_103, za_104, za_105, za_106, za_107, za_108, einc]
          rw [← hm1]
          try simp (disch := omega) only [zi_t, zi_f, bnd_t, zg_in, zx, nI_ltI, nI_leI, nI_eq, nI_add, pk_mul, pk_sub, mup_s, mup_c, mup_j, mrw_c, if_pos, if_neg, zm_1, zm_2, zm_3, zm_4, zm_5, zm_6, zm_7, zm_8, zm_9, zf_0, zf_1, zf_2, zf_3, zf_4, zf_5, zf_6, zf_7, zf_8, zf_9, zf_10, zf_14, zf_15, zf_16, zf_18, zf_19, zf_20, zf_24, zf_30, zf_31, zf_32, zf_33, zf_99, zf_100, zf_160, zf_200, zf_287, zf_288, zf_300, zf_1000, zf_1023, zf_1024, zf_1600, zf_3840, zf_25600, zf_36000, zf_1000000, zf_1000000000, zf_2000000000, zf_11560, za_1, za_2, za_4, za_5, za_6, za_7, za_8, za_9, za_10, za_11, za_12, za_14, za_15, za_22, za_23, za_25, za_26, za_27, za_28, za_29, za_30, za_31, za_32, za_33, za_34, za_35, za_41, za_42, za_43, za_44, za_45, za_46, za_47, za_48, za_49, za_61, za_62, za_63, za_64, za_65, za_71, za_72, za_73, za_74, za_75, za_76, za_77, za_78, za_79, za_80, za_81, za_82, za_83, za_84, za_85, za_86, za_87, za_88, za_89, za_90, za_91, za_92, za_93, za_94, za_95, za_96, za_97, za_98, za_99, za_100, za_101, za_102, za_103, za_104, za_105, za_106, za_107, za_108, e103, hd]
