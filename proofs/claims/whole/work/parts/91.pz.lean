/-! the model's draft -/
def Fx (lo hi : Nat) (J : List Nat) (m m' : Mem) : Prop := (∀ c, c ≠ 70 → (c < lo ∨ hi ≤ c) → m' c = m c) ∧ ∀ j, ¬ j ∈ J → m' 70 j = m 70 j
theorem Fx.rf {lo hi : Nat} {J : List Nat} {m : Mem} : Fx lo hi J m m := ⟨fun _ _ _ => rfl, fun _ _ => rfl⟩
theorem Fx.tr {lo hi : Nat} {J : List Nat} {m m' m'' : Mem} (h : Fx lo hi J m m') (h2 : Fx lo hi J m' m'') : Fx lo hi J m m'' := ⟨fun c c1 c2 => by rw [h2.1 c c1 c2, h.1 c c1 c2], fun j hj => by rw [h2.2 j hj, h.2 j hj]⟩
theorem Fx.wd {lo hi lo' hi' : Nat} {J J' : List Nat} {m m' : Mem} (h : Fx lo hi J m m') (h1 : lo' ≤ lo) (h2 : hi ≤ hi') (h3 : ∀ j, j ∈ J → j ∈ J') : Fx lo' hi' J' m m' := ⟨fun c c1 c2 => h.1 c c1 (by omega), fun j hj => h.2 j (fun h => hj (h3 j h))⟩
theorem Fx.up {lo hi : Nat} {J : List Nat} {m m' : Mem} {k j : Nat} {x : Int32} (h : Fx lo hi J m m') (h1 : lo ≤ k) (h2 : k < hi) (h3 : k ≠ 70) : Fx lo hi J m (mup m' k j x) := ⟨fun c c1 c2 => by rw [mup_r (by omega), h.1 c c1 c2], fun i hi => by rw [mup_c (Ne.symm h3), h.2 i hi]⟩
theorem Fx.sl {lo hi : Nat} {J : List Nat} {m m' : Mem} {j : Nat} {x : Int32} (h : Fx lo hi J m m') (h1 : j ∈ J) : Fx lo hi J m (mup m' 70 j x) := ⟨fun c c1 c2 => by rw [mup_r c1, h.1 c c1 c2], fun i hi => by rw [mup_j (fun e => hi (by rw [e]; exact h1)), h.2 i hi]⟩
theorem Fx.at {lo hi : Nat} {J : List Nat} {m m' : Mem} (h : Fx lo hi J m m') {c : Nat} (c1 : c ≠ 70) (c2 : c < lo ∨ hi ≤ c) (i : Nat) : m' c i = m c i := by rw [h.1 c c1 c2]
def MW (m : Mem) (E : Nat → Bool) (D : ArL) : Prop := m 70 14 = nI D.length ∧ RW m 80 81 D ∧ ∀ s, s < 1024 → m 82 s = bI (E s)
theorem MW.cg {m m' : Mem} {E : Nat → Bool} {D : ArL} (h : MW m E D) (h1 : m' 70 14 = m 70 14) (h2 : m' 80 = m 80) (h3 : m' 81 = m 81) (h4 : m' 82 = m 82) : MW m' E D := ⟨by rw [h1]; exact h.1, h.2.1.cg h2 h3, fun s hs => by rw [h4]; exact h.2.2 s hs⟩
theorem mw_begins {N : Nat} {m : Mem} (hN : 2000 < N) : ∃ m', F_X8_begins N m = some m' ∧ MW m' (fun _ => false) [] ∧ Fx 82 83 [14] m m' := by
  unfold F_X8_begins
  simp (disch := omega) only [zi_t, zi_f, bnd_t, zg_in, zx, nI_ltI, nI_leI, nI_eq, nI_add, pk_mul, pk_sub, mup_s, mup_c, mup_j, mrw_c, if_pos, if_neg, zm_1, zm_2, zm_3, zm_4, zm_5, zm_6, zm_7, zm_8, zm_9, zf_0, zf_1, zf_2, zf_3, zf_4, zf_5, zf_6, zf_7, zf_8, zf_9, zf_10, zf_14, zf_15, zf_16, zf_18, zf_19, zf_20, zf_24, zf_30, zf_31, zf_32, zf_33, zf_99, zf_100, zf_160, zf_200, zf_287, zf_288, zf_300, zf_1000, zf_1023, zf_1024, zf_1600, zf_3840, zf_25600, zf_36000, zf_1000000, zf_1000000000, zf_2000000000, zf_11560, za_1, za_2, za_4, za_5, za_6, za_7, za_8, za_9, za_10, za_11, za_12, za_14, za_15, za_22, za_23, za_25, za_26, za_27, za_28, za_29, za_30, za_31, za_32, za_33, za_34, za_35, za_41, za_42, za_43, za_44, za_45, za_46, za_47, za_48, za_49, za_61, za_62, za_63, za_64, za_65, za_71, za_72, za_73, za_74, za_75, za_76, za_77, za_78, za_79, za_80, za_81, za_82, za_83, za_84, za_85, za_86, za_87, za_88, za_89, za_90, za_91, za_92, za_93, za_94, za_95, za_96, za_97, za_98, za_99, za_100, za_101, za_102, za_103, za_104, za_105, za_106, za_107, za_108]
  refine loopF (fun f (m : Mem) i => L_X8_begins_7 N f m (nI i)) 1024 (fun i m' => m' 70 14 = nI 0 ∧ (∀ s, s < i → m' 82 s = nI 0) ∧ Fx 82 83 [14] m m') (fun o => ∃ m', o = some m' ∧ MW m' (fun _ => false) [] ∧ Fx 82 83 [14] m m') ?_ ?_ N 0 _ (by omega) ⟨by rw [mup_s], fun s hs => absurd hs (Nat.not_lt_zero _), Fx.rf.sl (by simp)⟩ (by omega)
  · rintro f i m1 hi ⟨h1, h2, h3⟩
    refine Or.inl ⟨mup m1 82 i (nI 0), ⟨by rw [mup_c (by omega)]; exact h1, ?_, h3.up (by omega) (by omega) (by omega)⟩, ?_⟩
    · intro s hs
      rw [mup_if]
      split
      · rfl
      · exact h2 s (by omega)
    · show S_X8_begins_7 N (L_X8_begins_7 N f) m1 (nI i) = _
      unfold S_X8_begins_7
      simp (disch := omega) only [zi_t, zi_f, bnd_t, zg_in, zx, nI_ltI, nI_leI, nI_eq, nI_add, pk_mul, pk_sub, mup_s, mup_c, mup_j, mrw_c, if_pos, if_neg, zm_1, zm_2, zm_3, zm_4, zm_5, zm_6, zm_7, zm_8, zm_9, zf_0, zf_1, zf_2, zf_3, zf_4, zf_5, zf_6, zf_7, zf_8, zf_9, zf_10, zf_14, zf_15, zf_16, zf_18, zf_19, zf_20, zf_24, zf_30, zf_31, zf_32, zf_33, zf_99, zf_100, zf_160, zf_200, zf_287, zf_288, zf_300, zf_1000, zf_1023, zf_1024, zf_1600, zf_3840, zf_25600, zf_36000, zf_1000000, zf_1000000000, zf_2000000000, zf_11560, za_1, za_2, za_4, za_5, za_6, za_7, za_8, za_9, za_10, za_11, za_12, za_14, za_15, za_22, za_23, za_25, za_26, za_27, za_28, za_29, za_30, za_31, za_32, za_33, za_34, za_35, za_41, za_42, za_43, za_44, za_45, za_46, za_47, za_48, za_49, za_61, za_62, za_63, za_64, za_65, za_71, za_72, za_73, za_74, za_75, za_76, za_77, za_78, za_79, za_80, za_81, za_82, za_83, za_84, za_85, za_86, za_87, za_88, za_89, za_90, za_91, za_92, za_93, za_94, za_95, za_96, za_97, za_98, za_99, za_100, za_101, za_102, za_103, za_104, za_105, za_106, za_107, za_108]
  · rintro f m1 ⟨h1, h2, h3⟩
    refine ⟨m1, ?_, ⟨h1, fun j q hq => (by simp at hq), h2⟩, h3⟩
    show S_X8_begins_7 N (L_X8_begins_7 N f) m1 (nI 1024) = _
    unfold S_X8_begins_7
    simp (disch := omega) only [zi_t, zi_f, bnd_t, zg_in, zx, nI_ltI, nI_leI, nI_eq, nI_add, pk_mul, pk_sub, mup_s, mup_c, mup_j, mrw_c, if_pos, if_neg, zm_1, zm_2, zm_3, zm_4, zm_5, zm_6, zm_7, zm_8, zm_9, zf_0, zf_1, zf_2, zf_3, zf_4, zf_5, zf_6, zf_7, zf_8, zf_9, zf_10, zf_14, zf_15, zf_16, zf_18, zf_19, zf_20, zf_24, zf_30, zf_31, zf_32, zf_33, zf_99, zf_100, zf_160, zf_200, zf_287, zf_288, zf_300, zf_1000, zf_1023, zf_1024, zf_1600, zf_3840, zf_25600, zf_36000, zf_1000000, zf_1000000000, zf_2000000000, zf_11560, za_1, za_2, za_4, za_5, za_6, za_7, za_8, za_9, za_10, za_11, za_12, za_14, za_15, za_22, za_23, za_25, za_26, za_27, za_28, za_29, za_30, za_31, za_32, za_33, za_34, za_35, za_41, za_42, za_43, za_44, za_45, za_46, za_47, za_48, za_49, za_61, za_62, za_63, za_64, za_65, za_71, za_72, za_73, za_74, za_75, za_76, za_77, za_78, za_79, za_80, za_81, za_82, za_83, za_84, za_85, za_86, za_87, za_88, za_89, za_90, za_91, za_92, za_93, za_94, za_95, za_96, za_97, za_98, za_99, za_100, za_101, za_102, za_103, za_104, za_105, za_106, za_107, za_108]
theorem pk_packedM {s u l t : Nat} (hs : s < 4096) (hu : u < 16) (hl : l < 16) (ht : t < 1024) : ((q_shl (nI s) (nI 18) ||| q_shl (nI u) (nI 14)) ||| q_shl (nI l) (nI 10)) ||| nI t = nI (pkA s u l t) := pk_packed hs hu hl ht
theorem mw_adds {N s u l t c : Nat} {m : Mem} {E : Nat → Bool} {D : ArL} (h : MW m E D) (hD : D.length < 36000) (hs : s < 1024) (hu : u ≤ 8) (hl : l ≤ 8) (ht : t < 1024) :
    ∃ m', F_X8_adds N m (nI s) (nI u) (nI l) (nI c) (nI t) = some m' ∧ MW m' E (D ++ [(pkA s u l t, c)]) ∧ Fx 80 82 [14] m m' := by
  obtain ⟨h1, h2, h3⟩ := h
  refine ⟨mup (mup (mup m 80 D.length (nI (pkA s u l t))) 81 D.length (nI c)) 70 14 (nI (D.length + 1)), ?_, ⟨?_, ?_, ?_⟩, ?_⟩
  · unfold F_X8_adds
    simp (disch := omega) only [zi_t, zi_f, bnd_t, zg_in, zx, nI_ltI, nI_leI, nI_eq, nI_add, pk_mul, pk_sub, mup_s, mup_c, mup_j, mrw_c, if_pos, if_neg, zm_1, zm_2, zm_3, zm_4, zm_5, zm_6, zm_7, zm_8, zm_9, zf_0, zf_1, zf_2, zf_3, zf_4, zf_5, zf_6, zf_7, zf_8, zf_9, zf_10, zf_14, zf_15, zf_16, zf_18, zf_19, zf_20, zf_24, zf_30, zf_31, zf_32, zf_33, zf_99, zf_100, zf_160, zf_200, zf_287, zf_288, zf_300, zf_1000, zf_1023, zf_1024, zf_1600, zf_3840, zf_25600, zf_36000, zf_1000000, zf_1000000000, zf_2000000000, zf_11560, za_1, za_2, za_4, za_5, za_6, za_7, za_8, za_9, za_10, za_11, za_12, za_14, za_15, za_22, za_23, za_25, za_26, za_27, za_28, za_29, za_30, za_31, za_32, za_33, za_34, za_35, za_41, za_42, za_43, za_44, za_45, za_46, za_47, za_48, za_49, za_61, za_62, za_63, za_64, za_65, za_71, za_72, za_73, za_74, za_75, za_76, za_77, za_78, za_79, za_80, za_81, za_82, za_83, za_84, za_85, za_86, za_87, za_88, za_89, za_90, za_91, za_92, za_93, za_94, za_95, za_96, za_97, za_98, za_99, za_100, za_101, za_102, za_103, za_104, za_105, za_106, za_107, za_108, h1, pk_packedM]
  · rw [mup_s, List.length_append]; rfl
  · exact (h2.snoc rfl (by omega)).cg (mup_r (by omega)) (mup_r (by omega))
  · intro x hx
    simp (disch := omega) only [zi_t, zi_f, bnd_t, zg_in, zx, nI_ltI, nI_leI, nI_eq, nI_add, pk_mul, pk_sub, mup_s, mup_c, mup_j, mrw_c, if_pos, if_neg, zm_1, zm_2, zm_3, zm_4, zm_5, zm_6, zm_7, zm_8, zm_9, zf_0, zf_1, zf_2, zf_3, zf_4, zf_5, zf_6, zf_7, zf_8, zf_9, zf_10, zf_14, zf_15, zf_16, zf_18, zf_19, zf_20, zf_24, zf_30, zf_31, zf_32, zf_33, zf_99, zf_100, zf_160, zf_200, zf_287, zf_288, zf_300, zf_1000, zf_1023, zf_1024, zf_1600, zf_3840, zf_25600, zf_36000, zf_1000000, zf_1000000000, zf_2000000000, zf_11560, za_1, za_2, za_4, za_5, za_6, za_7, za_8, za_9, za_10, za_11, za_12, za_14, za_15, za_22, za_23, za_25, za_26, za_27, za_28, za_29, za_30, za_31, za_32, za_33, za_34, za_35, za_41, za_42, za_43, za_44, za_45, za_46, za_47, za_48, za_49, za_61, za_62, za_63, za_64, za_65, za_71, za_72, za_73, za_74, za_75, za_76, za_77, za_78, za_79, za_80, za_81, za_82, za_83, za_84, za_85, za_86, za_87, za_88, za_89, za_90, za_91, za_92, za_93, za_94, za_95, za_96, za_97, za_98, za_99, za_100, za_101, za_102, za_103, za_104, za_105, za_106, za_107, za_108, h3 x hx]
  · exact ((Fx.rf.up (by omega) (by omega) (by omega)).up (by omega) (by omega) (by omega)).sl (by simp)
theorem pk_src {p : Nat} (h : p < 2 ^ 31) : P_X8_sourceOf (nI p) = nI (p / 262144) := by
  unfold P_X8_sourceOf q_shr
  exact pk_shrN h ((18 : Int32) &&& 31) 18 (by decide)
theorem pk_tgt {p : Nat} (h : p < 2 ^ 31) : P_X8_targetOf (nI p) = nI (p % 1024) := pk_to h
/-! how many are marked -/
def cnt (b : Nat → Bool) : Nat → Nat
  | 0 => 0
  | n + 1 => cnt b n + (if b n then 1 else 0)
theorem cnt_le (b : Nat → Bool) : ∀ n, cnt b n ≤ n
  | 0 => Nat.le_refl _
  | n + 1 => by
    have := cnt_le b n
    rw [cnt]
    split <;> omega
theorem cnt_mono {a b : Nat → Bool} (h : ∀ s, a s = true → b s = true) : ∀ n, cnt a n ≤ cnt b n
  | 0 => Nat.le_refl _
  | n + 1 => by
    have := cnt_mono h n
    rw [cnt, cnt]
    by_cases ha : a n = true
    · rw [if_pos ha, if_pos (h n ha)]; omega
    · rw [if_neg ha]; omega
theorem cnt_lt {a b : Nat → Bool} (h : ∀ s, a s = true → b s = true) {x : Nat} (hb : b x = true) (ha : a x = false) : ∀ n, x < n → cnt a n < cnt b n
  | 0, h0 => absurd h0 (Nat.not_lt_zero _)
  | n + 1, hx => by
    rw [cnt, cnt]
    by_cases e : x = n
    · subst e
      have := cnt_mono h x
      rw [if_neg (by rw [ha]; simp), if_pos hb]
      omega
    · have := cnt_lt h hb ha n (by omega)
      by_cases ha : a n = true
      · rw [if_pos ha, if_pos (h n ha)]; omega
      · rw [if_neg ha]; omega
/-! reached and useful states in the model -/
def MR (m : Mem) (rd us : Nat → Bool) : Prop := ∀ s, s < 1024 → m 83 s = bI (rd s) ∧ m 84 s = bI (us s)
def upO (b : Nat → Bool) (t : Nat) (x : Bool) : Nat → Bool := fun s => b s || (decide (s = t) && x)
theorem upO_t {b : Nat → Bool} {t s : Nat} {x : Bool} : upO b t x s = true ↔ b s = true ∨ (s = t ∧ x = true) := by unfold upO; simp
theorem MR.up {m : Mem} {rd us : Nat → Bool} {s t : Nat} {a b : Bool} (h : MR m rd us) (hs : s < 1024) (ht : t < 1024) : MR (mup (mup m 83 t (bI (rd t || a))) 84 s (bI (us s || b))) (upO rd t a) (upO us s b) := by
  intro x hx
  constructor
  · rw [mup_c (by omega), mup_if]
    unfold upO
    split
    · rename_i e; rw [e]; simp
    · rename_i e; rw [(h x hx).1]; simp [e]
  · rw [mup_if]
    unfold upO
    split
    · rename_i e; rw [e]; simp
    · rename_i e; rw [mup_c (by omega), (h x hx).2]; simp [e]
theorem nI_ltT {a b : Nat} (h : a < b) (hb : b < 2 ^ 31) : (nI a < nI b) = True := eq_true (nI_lt h hb)
theorem nI_ltF {a b : Nat} (h : b ≤ a) (ha : a < 2 ^ 31) : (nI a < nI b) = False := eq_false (nI_nlt h ha)
theorem nI_leT {a b : Nat} (h : a ≤ b) (hb : b < 2 ^ 31) : (nI a ≤ nI b) = True := eq_true (nI_le h hb)
theorem nI_leF {a b : Nat} (h : b < a) (ha : a < 2 ^ 31) : (nI a ≤ nI b) = False := eq_false (nI_ge h ha)
theorem nI_eqT {a b : Nat} (h : a = b) : (nI a = nI b) = True := eq_true (by rw [h])
theorem nI_eqF {a b : Nat} (h : a ≠ b) (ha : a < 2 ^ 31) (hb : b < 2 ^ 31) : (nI a = nI b) = False := eq_false (fun e => h (nI_inj ha hb e))
theorem rch_193 {N : Nat} {r1 : Mem → Int32 → Option Mem} {r2 : Mem → Int32 → Int32 → Option Mem} {m : Mem} {i s : Nat} {g h v : Bool} (hs : s < 1024) :
    B_X8_reaches_193 N r1 r2 m (bI g) (nI i) (bI h) (bI v) (nI s) = r2 (mup m 84 s (bI v)) (bI (g || h)) (nI (i + 1)) := by
  unfold B_X8_reaches_193 B_X8_reaches_203 B_X8_reaches_208
  cases g <;> cases h <;> simp (disch := omega) only [zi_t, zi_f, bnd_t, zg_in, zx, nI_ltI, nI_leI, nI_eq, nI_add, pk_mul, pk_sub, mup_s, mup_c, mup_j, mrw_c, if_pos, if_neg, zm_1, zm_2, zm_3, zm_4, zm_5, zm_6, zm_7, zm_8, zm_9, zf_0, zf_1, zf_2, zf_3, zf_4, zf_5, zf_6, zf_7, zf_8, zf_9, zf_10, zf_14, zf_15, zf_16, zf_18, zf_19, zf_20, zf_24, zf_30, zf_31, zf_32, zf_33, zf_99, zf_100, zf_160, zf_200, zf_287, zf_288, zf_300, zf_1000, zf_1023, zf_1024, zf_1600, zf_3840, zf_25600, zf_36000, zf_1000000, zf_1000000000, zf_2000000000, zf_11560, za_1, za_2, za_4, za_5, za_6, za_7, za_8, za_9, za_10, za_11, za_12, za_14, za_15, za_22, za_23, za_25, za_26, za_27, za_28, za_29, za_30, za_31, za_32, za_33, za_34, za_35, za_41, za_42, za_43, za_44, za_45, za_46, za_47, za_48, za_49, za_61, za_62, za_63, za_64, za_65, za_71, za_72, za_73, za_74, za_75, za_76, za_77, za_78, za_79, za_80, za_81, za_82, za_83, za_84, za_85, za_86, za_87, za_88, za_89, za_90, za_91, za_92, za_93, za_94, za_95, za_96, za_97, za_98, za_99, za_100, za_101, za_102, za_103, za_104, za_105, za_106, za_107, za_108, bI_t, bI_f, gd_t (bI_isb v), Bool.or_true, Bool.or_false]
theorem rch_161 {N : Nat} {r1 : Mem → Int32 → Option Mem} {r2 : Mem → Int32 → Int32 → Option Mem} {m : Mem} {i s t : Nat} {g h v a b : Bool} (hs : s < 1024) (ht : t < 1024) (ha : m 84 s = bI a) (hb : m 84 t = bI b) :
    B_X8_reaches_161 N r1 r2 m (bI g) (nI i) (nI s) (nI t) (bI h) (bI v) (nI t) = r2 (mup (mup m 83 t (bI v)) 84 s (bI (a || b))) (bI (g || h)) (nI (i + 1)) := by
  refine Eq.trans ?_ (rch_193 (N := N) (r1 := r1) hs)
  unfold B_X8_reaches_161 B_X8_reaches_188
  cases a <;> cases b <;> simp (disch := omega) only [zi_t, zi_f, bnd_t, zg_in, zx, nI_ltI, nI_leI, nI_eq, nI_add, pk_mul, pk_sub, mup_s, mup_c, mup_j, mrw_c, if_pos, if_neg, zm_1, zm_2, zm_3, zm_4, zm_5, zm_6, zm_7, zm_8, zm_9, zf_0, zf_1, zf_2, zf_3, zf_4, zf_5, zf_6, zf_7, zf_8, zf_9, zf_10, zf_14, zf_15, zf_16, zf_18, zf_19, zf_20, zf_24, zf_30, zf_31, zf_32, zf_33, zf_99, zf_100, zf_160, zf_200, zf_287, zf_288, zf_300, zf_1000, zf_1023, zf_1024, zf_1600, zf_3840, zf_25600, zf_36000, zf_1000000, zf_1000000000, zf_2000000000, zf_11560, za_1, za_2, za_4, za_5, za_6, za_7, za_8, za_9, za_10, za_11, za_12, za_14, za_15, za_22, za_23, za_25, za_26, za_27, za_28, za_29, za_30, za_31, za_32, za_33, za_34, za_35, za_41, za_42, za_43, za_44, za_45, za_46, za_47, za_48, za_49, za_61, za_62, za_63, za_64, za_65, za_71, za_72, za_73, za_74, za_75, za_76, za_77, za_78, za_79, za_80, za_81, za_82, za_83, za_84, za_85, za_86, za_87, za_88, za_89, za_90, za_91, za_92, za_93, za_94, za_95, za_96, za_97, za_98, za_99, za_100, za_101, za_102, za_103, za_104, za_105, za_106, za_107, za_108, ha, hb, bI_t, bI_f, gd_t (bI_isb v), Bool.or_true, Bool.or_false]
theorem rch_128 {N : Nat} {r1 : Mem → Int32 → Option Mem} {r2 : Mem → Int32 → Int32 → Option Mem} {m : Mem} {i s t : Nat} {g h a b c d : Bool} (hs : s < 1024) (ht : t < 1024) (ha : m 84 s = bI a) (hb : m 84 t = bI b) (hc : m 83 s = bI c) (hd : m 83 t = bI d) :
    B_X8_reaches_128 N r1 r2 m (bI g) (nI i) (nI s) (nI t) (bI h) = r2 (mup (mup m 83 t (bI (d || c))) 84 s (bI (a || b))) (bI (g || h)) (nI (i + 1)) := by
  refine Eq.trans ?_ (rch_161 (N := N) (r1 := r1) hs ht ha hb)
  unfold B_X8_reaches_128 B_X8_reaches_156
  cases c <;> cases d <;> simp (disch := omega) only [zi_t, zi_f, bnd_t, zg_in, zx, nI_ltI, nI_leI, nI_eq, nI_add, pk_mul, pk_sub, mup_s, mup_c, mup_j, mrw_c, if_pos, if_neg, zm_1, zm_2, zm_3, zm_4, zm_5, zm_6, zm_7, zm_8, zm_9, zf_0, zf_1, zf_2, zf_3, zf_4, zf_5, zf_6, zf_7, zf_8, zf_9, zf_10, zf_14, zf_15, zf_16, zf_18, zf_19, zf_20, zf_24, zf_30, zf_31, zf_32, zf_33, zf_99, zf_100, zf_160, zf_200, zf_287, zf_288, zf_300, zf_1000, zf_1023, zf_1024, zf_1600, zf_3840, zf_25600, zf_36000, zf_1000000, zf_1000000000, zf_2000000000, zf_11560, za_1, za_2, za_4, za_5, za_6, za_7, za_8, za_9, za_10, za_11, za_12, za_14, za_15, za_22, za_23, za_25, za_26, za_27, za_28, za_29, za_30, za_31, za_32, za_33, za_34, za_35, za_41, za_42, za_43, za_44, za_45, za_46, za_47, za_48, za_49, za_61, za_62, za_63, za_64, za_65, za_71, za_72, za_73, za_74, za_75, za_76, za_77, za_78, za_79, za_80, za_81, za_82, za_83, za_84, za_85, za_86, za_87, za_88, za_89, za_90, za_91, za_92, za_93, za_94, za_95, za_96, za_97, za_98, za_99, za_100, za_101, za_102, za_103, za_104, za_105, za_106, za_107, za_108, hc, hd, bI_t, bI_f, Bool.or_true, Bool.or_false]
theorem rch_103 {N : Nat} {r1 : Mem → Int32 → Option Mem} {r2 : Mem → Int32 → Int32 → Option Mem} {m : Mem} {i s t : Nat} {x2 : Int32} {a b : Bool} (hs : s < 1024) (ht : t < 1024) (ha : m 84 s = bI a) (hb : m 84 t = bI b) :
    B_X8_reaches_103 N r1 r2 m x2 (nI i) (nI s) (nI t) = B_X8_reaches_128 N r1 r2 m x2 (nI i) (nI s) (nI t) (bI (b && !a)) := by
  unfold B_X8_reaches_103 B_X8_reaches_123 B_X8_reaches_127
  cases a <;> cases b <;> simp (disch := omega) only [zi_t, zi_f, bnd_t, zg_in, zx, nI_ltI, nI_leI, nI_eq, nI_add, pk_mul, pk_sub, mup_s, mup_c, mup_j, mrw_c, if_pos, if_neg, zm_1, zm_2, zm_3, zm_4, zm_5, zm_6, zm_7, zm_8, zm_9, zf_0, zf_1, zf_2, zf_3, zf_4, zf_5, zf_6, zf_7, zf_8, zf_9, zf_10, zf_14, zf_15, zf_16, zf_18, zf_19, zf_20, zf_24, zf_30, zf_31, zf_32, zf_33, zf_99, zf_100, zf_160, zf_200, zf_287, zf_288, zf_300, zf_1000, zf_1023, zf_1024, zf_1600, zf_3840, zf_25600, zf_36000, zf_1000000, zf_1000000000, zf_2000000000, zf_11560, za_1, za_2, za_4, za_5, za_6, za_7, za_8, za_9, za_10, za_11, za_12, za_14, za_15, za_22, za_23, za_25, za_26, za_27, za_28, za_29, za_30, za_31, za_32, za_33, za_34, za_35, za_41, za_42, za_43, za_44, za_45, za_46, za_47, za_48, za_49, za_61, za_62, za_63, za_64, za_65, za_71, za_72, za_73, za_74, za_75, za_76, za_77, za_78, za_79, za_80, za_81, za_82, za_83, za_84, za_85, za_86, za_87, za_88, za_89, za_90, za_91, za_92, za_93, za_94, za_95, za_96, za_97, za_98, za_99, za_100, za_101, za_102, za_103, za_104, za_105, za_106, za_107, za_108, ha, hb, bI_t, bI_f, Bool.and_true, Bool.and_false, Bool.not_true, Bool.not_false]
theorem rch_st {N : Nat} {rec_ : Mem → Int32 → Option Mem} {rec2 : Mem → Int32 → Int32 → Option Mem} {m1 : Mem} {i n p : Nat} {g : Bool} {rd us : Nat → Bool} (hi : i < n) (hn : n ≤ 36000) (hp : p < 2 ^ 28) (e14 : m1 70 14 = nI n) (e80 : m1 80 i = nI p)
    (ers : m1 83 (p / 262144) = bI (rd (p / 262144))) (ert : m1 83 (p % 1024) = bI (rd (p % 1024))) (eus : m1 84 (p / 262144) = bI (us (p / 262144))) (eut : m1 84 (p % 1024) = bI (us (p % 1024))) :
    S_X8_reaches_53 N rec_ rec2 m1 (bI g) (nI i) = rec2 (mup (mup m1 83 (p % 1024) (bI (rd (p % 1024) || rd (p / 262144)))) 84 (p / 262144) (bI (us (p / 262144) || us (p % 1024)))) (bI (g || ((rd (p / 262144) && !rd (p % 1024)) || (us (p % 1024) && !us (p / 262144))))) (nI (i + 1)) := by
  refine Eq.trans ?_ (rch_128 (N := N) (r1 := rec_) (by omega) (by omega) eus eut ers ert)
  have h103 := rch_103 (N := N) (r1 := rec_) (r2 := rec2) (i := i) (x2 := bI g) (by omega) (by omega) eus eut
  unfold S_X8_reaches_53 B_X8_reaches_123
  cases b1 : rd (p / 262144) <;> cases b2 : rd (p % 1024) <;> rw [b1] at ers <;> rw [b2] at ert <;> simp (disch := omega) only [zi_t, zi_f, bnd_t, zg_in, zx, nI_ltI, nI_leI, nI_eq, nI_add, pk_mul, pk_sub, mup_s, mup_c, mup_j, mrw_c, if_pos, if_neg, zm_1, zm_2, zm_3, zm_4, zm_5, zm_6, zm_7, zm_8, zm_9, zf_0, zf_1, zf_2, zf_3, zf_4, zf_5, zf_6, zf_7, zf_8, zf_9, zf_10, zf_14, zf_15, zf_16, zf_18, zf_19, zf_20, zf_24, zf_30, zf_31, zf_32, zf_33, zf_99, zf_100, zf_160, zf_200, zf_287, zf_288, zf_300, zf_1000, zf_1023, zf_1024, zf_1600, zf_3840, zf_25600, zf_36000, zf_1000000, zf_1000000000, zf_2000000000, zf_11560, za_1, za_2, za_4, za_5, za_6, za_7, za_8, za_9, za_10, za_11, za_12, za_14, za_15, za_22, za_23, za_25, za_26, za_27, za_28, za_29, za_30, za_31, za_32, za_33, za_34, za_35, za_41, za_42, za_43, za_44, za_45, za_46, za_47, za_48, za_49, za_61, za_62, za_63, za_64, za_65, za_71, za_72, za_73, za_74, za_75, za_76, za_77, za_78, za_79, za_80, za_81, za_82, za_83, za_84, za_85, za_86, za_87, za_88, za_89, za_90, za_91, za_92, za_93, za_94, za_95, za_96, za_97, za_98, za_99, za_100, za_101, za_102, za_103, za_104, za_105, za_106, za_107, za_108, e14, e80, pk_src, pk_tgt, ers, ert, bI_t, bI_f, h103, Bool.or_true, Bool.true_or, Bool.or_false, Bool.false_or, Bool.and_true, Bool.true_and, Bool.and_false, Bool.false_and, Bool.not_true, Bool.not_false]
theorem rch_in {N : Nat} {rec : Mem → Int32 → Option Mem} {E : Nat → Bool} {D : ArL} {m0 : Mem} {rd0 us0 : Nat → Bool} (hN : 40000 < N) (h : MW m0 E D) (hD : D.length ≤ 36000) (hok : DOK 1024 D) (hr : MR m0 rd0 us0) :
    ∃ m' rd us g, L_X8_reaches_53 N rec N m0 (nI 0) (nI 0) = rec m' (bI g) ∧ MR m' rd us ∧ Fx 83 85 [] m0 m' ∧ (∀ x, rd0 x = true → rd x = true) ∧ (∀ x, us0 x = true → us x = true) ∧
      (∀ P : Nat → Prop, (∀ x, rd0 x = true → P x) → (∀ x y, P x → aR D x y → P y) → ∀ x, rd x = true → P x) ∧
      (∀ P : Nat → Prop, (∀ x, us0 x = true → P x) → (∀ x y, P y → aR D x y → P x) → ∀ x, us x = true → P x) ∧
      (g = true → cnt rd0 1024 + cnt us0 1024 < cnt rd 1024 + cnt us 1024) ∧
      (g = false → (∀ x y, aR D x y → rd x = true → rd y = true) ∧ (∀ x y, aR D x y → us y = true → us x = true)) := by
  refine loopF (σ := Mem × (Nat → Bool) × (Nat → Bool) × Bool) (fun f s i => L_X8_reaches_53 N rec f s.1 (bI s.2.2.2) (nI i)) D.length
    (fun i s => MR s.1 s.2.1 s.2.2.1 ∧ Fx 83 85 [] m0 s.1 ∧ (∀ x, rd0 x = true → s.2.1 x = true) ∧ (∀ x, us0 x = true → s.2.2.1 x = true) ∧
      (∀ P : Nat → Prop, (∀ x, rd0 x = true → P x) → (∀ x y, P x → aR D x y → P y) → ∀ x, s.2.1 x = true → P x) ∧
      (∀ P : Nat → Prop, (∀ x, us0 x = true → P x) → (∀ x y, P y → aR D x y → P x) → ∀ x, s.2.2.1 x = true → P x) ∧
      (s.2.2.2 = true → cnt rd0 1024 + cnt us0 1024 < cnt s.2.1 1024 + cnt s.2.2.1 1024) ∧
      (s.2.2.2 = false → (∀ x, s.2.1 x = rd0 x) ∧ (∀ x, s.2.2.1 x = us0 x) ∧ ∀ j, j < i → (rd0 (keyF D j) = true → rd0 (keyT D j) = true) ∧ (us0 (keyT D j) = true → us0 (keyF D j) = true)))
    (fun o => ∃ m' rd us g, o = rec m' (bI g) ∧ MR m' rd us ∧ Fx 83 85 [] m0 m' ∧ (∀ x, rd0 x = true → rd x = true) ∧ (∀ x, us0 x = true → us x = true) ∧
      (∀ P : Nat → Prop, (∀ x, rd0 x = true → P x) → (∀ x y, P x → aR D x y → P y) → ∀ x, rd x = true → P x) ∧
      (∀ P : Nat → Prop, (∀ x, us0 x = true → P x) → (∀ x y, P y → aR D x y → P x) → ∀ x, us x = true → P x) ∧
      (g = true → cnt rd0 1024 + cnt us0 1024 < cnt rd 1024 + cnt us 1024) ∧
      (g = false → (∀ x y, aR D x y → rd x = true → rd y = true) ∧ (∀ x y, aR D x y → us y = true → us x = true)))
    ?_ ?_ N 0 (m0, rd0, us0, false) (Nat.zero_le _) ⟨hr, Fx.rf, fun x h => h, fun x h => h, fun P h _ => h, fun P h _ => h, fun h => (by cases h), fun _ => ⟨fun _ => rfl, fun _ => rfl, fun j hj => absurd hj (Nat.not_lt_zero _)⟩⟩ (by omega)
  · rintro f i ⟨m1, rd, us, g⟩ hi ⟨h1, h2, h3, h4, h5, h6, h7, h8⟩
    dsimp only at h1 h2 h3 h4 h5 h6 h7 h8
    obtain ⟨q, hq⟩ : ∃ q, D[i]? = some q := ⟨_, List.getElem?_eq_getElem hi⟩
    have hqm := hok q (List.mem_of_getElem? hq)
    have hq1 := hqm.1
    have hs : q.1 / 262144 < 1024 := hqm.2.1
    have ht : q.1 % 1024 < 1024 := hqm.2.2.1
    have e14 : m1 70 14 = nI D.length := (h2.2 14 (by simp)).trans h.1
    have e80 : m1 80 i = nI q.1 := (h2.at (by omega) (by omega) i).trans (h.2.1 i q hq).1
    have ers := (h1 _ hs).1
    have ert := (h1 _ ht).1
    have eus := (h1 _ hs).2
    have eut := (h1 _ ht).2
    have hkF := keyF_at hq
    have hkT := keyT_at hq
    have har : aR D (q.1 / 262144) (q.1 % 1024) := ⟨q, List.mem_of_getElem? hq, rfl, rfl⟩
    have hstep := rch_st (N := N) (rec_ := rec) (rec2 := L_X8_reaches_53 N rec f) (g := g) (rd := rd) (us := us) hi hD hq1 e14 e80 ers ert eus eut
    refine Or.inl ⟨(mup (mup m1 83 (q.1 % 1024) (bI (rd (q.1 % 1024) || rd (q.1 / 262144)))) 84 (q.1 / 262144) (bI (us (q.1 / 262144) || us (q.1 % 1024))), upO rd (q.1 % 1024) (rd (q.1 / 262144)), upO us (q.1 / 262144) (us (q.1 % 1024)), g || ((rd (q.1 / 262144) && !rd (q.1 % 1024)) || (us (q.1 % 1024) && !us (q.1 / 262144)))), ⟨h1.up hs ht, (h2.up (by omega) (by omega) (by omega)).up (by omega) (by omega) (by omega), ?_, ?_, ?_, ?_, ?_, ?_⟩, hstep⟩
    · intro x hx; exact upO_t.mpr (Or.inl (h3 x hx))
    · intro x hx; exact upO_t.mpr (Or.inl (h4 x hx))
    · intro P hP hst x hx
      rcases upO_t.mp hx with e | ⟨e, e2⟩
      · exact h5 P hP hst x e
      · rw [e]; exact hst _ _ (h5 P hP hst _ e2) har
    · intro P hP hst x hx
      rcases upO_t.mp hx with e | ⟨e, e2⟩
      · exact h6 P hP hst x e
      · rw [e]; exact hst _ _ (h6 P hP hst _ e2) har
    · intro hg
      have c1 : cnt rd 1024 ≤ cnt (upO rd (q.1 % 1024) (rd (q.1 / 262144))) 1024 := cnt_mono (fun s h => upO_t.mpr (Or.inl h)) _
      have c2 : cnt us 1024 ≤ cnt (upO us (q.1 / 262144) (us (q.1 % 1024))) 1024 := cnt_mono (fun s h => upO_t.mpr (Or.inl h)) _
      have c3 : cnt rd0 1024 ≤ cnt rd 1024 := cnt_mono h3 _
      have c4 : cnt us0 1024 ≤ cnt us 1024 := cnt_mono h4 _
      show _ < cnt (upO rd (q.1 % 1024) (rd (q.1 / 262144))) 1024 + cnt (upO us (q.1 / 262144) (us (q.1 % 1024))) 1024
      by_cases hg0 : g = true
      · have := h7 hg0; omega
      · have hg : (g || ((rd (q.1 / 262144) && !rd (q.1 % 1024)) || (us (q.1 % 1024) && !us (q.1 / 262144)))) = true := hg
        simp only [Bool.or_eq_true, Bool.and_eq_true, Bool.not_eq_true'] at hg
        rcases hg with hg | ⟨hg1, hg2⟩ | ⟨hg1, hg2⟩
        · exact absurd hg hg0
        · have := cnt_lt (a := rd) (b := upO rd (q.1 % 1024) (rd (q.1 / 262144))) (fun s h => upO_t.mpr (Or.inl h)) (upO_t.mpr (Or.inr ⟨rfl, hg1⟩)) hg2 1024 ht
          omega
        · have := cnt_lt (a := us) (b := upO us (q.1 / 262144) (us (q.1 % 1024))) (fun s h => upO_t.mpr (Or.inl h)) (upO_t.mpr (Or.inr ⟨rfl, hg1⟩)) hg2 1024 hs
          omega
    · intro hg
      have hg : (g || ((rd (q.1 / 262144) && !rd (q.1 % 1024)) || (us (q.1 % 1024) && !us (q.1 / 262144)))) = false := hg
      simp only [Bool.or_eq_false_iff, Bool.and_eq_false_iff, Bool.not_eq_false'] at hg
      obtain ⟨hg0, hgr, hgu⟩ := hg
      obtain ⟨k1, k2, k3⟩ := h8 hg0
      refine ⟨?_, ?_, ?_⟩
      · intro x
        show upO rd _ _ x = _
        rw [← k1 x]
        unfold upO
        by_cases e : x = q.1 % 1024
        · subst e
          rcases hgr with hgr | hgr <;> rw [hgr] <;> simp
        · simp [e]
      · intro x
        show upO us _ _ x = _
        rw [← k2 x]
        unfold upO
        by_cases e : x = q.1 / 262144
        · subst e
          rcases hgu with hgu | hgu <;> rw [hgu] <;> simp
        · simp [e]
      · intro j hj
        by_cases e : j = i
        · subst e
          rw [hkF, hkT, ← k1, ← k1, ← k2, ← k2]
          constructor
          · intro hx
            rcases hgr with hgr | hgr
            · have hx : rd (q.1 / 262144) = true := hx
              rw [hgr] at hx; cases hx
            · exact hgr
          · intro hx
            rcases hgu with hgu | hgu
            · have hx : us (q.1 % 1024) = true := hx
              rw [hgu] at hx; cases hx
            · exact hgu
        · exact k3 j (by have hj : j < i + 1 := hj; omega)
  · rintro f ⟨m1, rd, us, g⟩ ⟨h1, h2, h3, h4, h5, h6, h7, h8⟩
    dsimp only at h1 h2 h3 h4 h5 h6 h7 h8
    have e14 : m1 70 14 = nI D.length := (h2.2 14 (by simp)).trans h.1
    refine ⟨m1, rd, us, g, ?_, h1, h2, h3, h4, h5, h6, h7, ?_⟩
    · show S_X8_reaches_53 N rec (L_X8_reaches_53 N rec f) m1 (bI g) (nI D.length) = _
      unfold S_X8_reaches_53
      simp (disch := omega) only [zi_t, zi_f, bnd_t, zg_in, zx, nI_ltI, nI_leI, nI_eq, nI_add, pk_mul, pk_sub, mup_s, mup_c, mup_j, mrw_c, if_pos, if_neg, zm_1, zm_2, zm_3, zm_4, zm_5, zm_6, zm_7, zm_8, zm_9, zf_0, zf_1, zf_2, zf_3, zf_4, zf_5, zf_6, zf_7, zf_8, zf_9, zf_10, zf_14, zf_15, zf_16, zf_18, zf_19, zf_20, zf_24, zf_30, zf_31, zf_32, zf_33, zf_99, zf_100, zf_160, zf_200, zf_287, zf_288, zf_300, zf_1000, zf_1023, zf_1024, zf_1600, zf_3840, zf_25600, zf_36000, zf_1000000, zf_1000000000, zf_2000000000, zf_11560, za_1, za_2, za_4, za_5, za_6, za_7, za_8, za_9, za_10, za_11, za_12, za_14, za_15, za_22, za_23, za_25, za_26, za_27, za_28, za_29, za_30, za_31, za_32, za_33, za_34, za_35, za_41, za_42, za_43, za_44, za_45, za_46, za_47, za_48, za_49, za_61, za_62, za_63, za_64, za_65, za_71, za_72, za_73, za_74, za_75, za_76, za_77, za_78, za_79, za_80, za_81, za_82, za_83, za_84, za_85, za_86, za_87, za_88, za_89, za_90, za_91, za_92, za_93, za_94, za_95, za_96, za_97, za_98, za_99, za_100, za_101, za_102, za_103, za_104, za_105, za_106, za_107, za_108, e14]
    · intro hg
      obtain ⟨k1, k2, k3⟩ := h8 hg
      constructor
      · intro x y hr hx
        obtain ⟨j, hj, rfl, rfl⟩ := aR_of hr
        rw [k1] at hx ⊢
        exact (k3 j hj).1 hx
      · intro x y hr hx
        obtain ⟨j, hj, rfl, rfl⟩ := aR_of hr
        rw [k2] at hx ⊢
        exact (k3 j hj).2 hx
