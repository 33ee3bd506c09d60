theorem zf_0 : (0 : Int32) = nI 0 := rfl
theorem zf_1 : (1 : Int32) = nI 1 := rfl
theorem zf_2 : (2 : Int32) = nI 2 := rfl
theorem zf_3 : (3 : Int32) = nI 3 := rfl
theorem zf_4 : (4 : Int32) = nI 4 := rfl
theorem zf_5 : (5 : Int32) = nI 5 := rfl
theorem zf_6 : (6 : Int32) = nI 6 := rfl
theorem zf_7 : (7 : Int32) = nI 7 := rfl
theorem zf_8 : (8 : Int32) = nI 8 := rfl
theorem zf_9 : (9 : Int32) = nI 9 := rfl
theorem zf_10 : (10 : Int32) = nI 10 := rfl
theorem zf_14 : (14 : Int32) = nI 14 := rfl
theorem zf_15 : (15 : Int32) = nI 15 := rfl
theorem zf_16 : (16 : Int32) = nI 16 := rfl
theorem zf_18 : (18 : Int32) = nI 18 := rfl
theorem zf_19 : (19 : Int32) = nI 19 := rfl
theorem zf_20 : (20 : Int32) = nI 20 := rfl
theorem zf_24 : (24 : Int32) = nI 24 := rfl
theorem zf_30 : (30 : Int32) = nI 30 := rfl
theorem zf_31 : (31 : Int32) = nI 31 := rfl
theorem zf_32 : (32 : Int32) = nI 32 := rfl
theorem zf_33 : (33 : Int32) = nI 33 := rfl
theorem zf_99 : (99 : Int32) = nI 99 := rfl
theorem zf_100 : (100 : Int32) = nI 100 := rfl
theorem zf_160 : (160 : Int32) = nI 160 := rfl
theorem zf_200 : (200 : Int32) = nI 200 := rfl
theorem zf_287 : (287 : Int32) = nI 287 := rfl
theorem zf_288 : (288 : Int32) = nI 288 := rfl
theorem zf_300 : (300 : Int32) = nI 300 := rfl
theorem zf_1000 : (1000 : Int32) = nI 1000 := rfl
theorem zf_1023 : (1023 : Int32) = nI 1023 := rfl
theorem zf_1024 : (1024 : Int32) = nI 1024 := rfl
theorem zf_1600 : (1600 : Int32) = nI 1600 := rfl
theorem zf_3840 : (3840 : Int32) = nI 3840 := rfl
theorem zf_25600 : (25600 : Int32) = nI 25600 := rfl
theorem zf_36000 : (36000 : Int32) = nI 36000 := rfl
theorem zf_1000000 : (1000000 : Int32) = nI 1000000 := rfl
theorem zf_1000000000 : (1000000000 : Int32) = nI 1000000000 := rfl
theorem zf_2000000000 : (2000000000 : Int32) = nI 2000000000 := rfl
theorem zf_11560 : (11560 : Int32) = nI 11560 := rfl
theorem za_1 : alen 1 = 8 := rfl
theorem za_2 : alen 2 = 24 := rfl
theorem za_4 : alen 4 = 25600 := rfl
theorem za_5 : alen 5 = 25600 := rfl
theorem za_6 : alen 6 = 1024 := rfl
theorem za_7 : alen 7 = 1024 := rfl
theorem za_8 : alen 8 = 25600 := rfl
theorem za_9 : alen 9 = 1024 := rfl
theorem za_10 : alen 10 = 1024 := rfl
theorem za_11 : alen 11 = 1024 := rfl
theorem za_12 : alen 12 = 1024 := rfl
theorem za_14 : alen 14 = 160 := rfl
theorem za_15 : alen 15 = 160 := rfl
theorem za_22 : alen 22 = 32 := rfl
theorem za_23 : alen 23 = 256 := rfl
theorem za_25 : alen 25 = 32 := rfl
theorem za_26 : alen 26 = 256 := rfl
theorem za_27 : alen 27 = 200 := rfl
theorem za_28 : alen 28 = 200 := rfl
theorem za_29 : alen 29 = 1600 := rfl
theorem za_30 : alen 30 = 200 := rfl
theorem za_31 : alen 31 = 200 := rfl
theorem za_32 : alen 32 = 200 := rfl
theorem za_33 : alen 33 = 200 := rfl
theorem za_34 : alen 34 = 200 := rfl
theorem za_35 : alen 35 = 32 := rfl
theorem za_41 : alen 41 = 8 := rfl
theorem za_42 : alen 42 = 160 := rfl
theorem za_43 : alen 43 = 160 := rfl
theorem za_44 : alen 44 = 160 := rfl
theorem za_45 : alen 45 = 160 := rfl
theorem za_46 : alen 46 = 288 := rfl
theorem za_47 : alen 47 = 2592 := rfl
theorem za_48 : alen 48 = 288 := rfl
theorem za_49 : alen 49 = 288 := rfl
theorem za_61 : alen 61 = 240 := rfl
theorem za_62 : alen 62 = 30 := rfl
theorem za_63 : alen 63 = 30 := rfl
theorem za_64 : alen 64 = 30 := rfl
theorem za_65 : alen 65 = 6 := rfl
theorem za_70 : alen 70 = 8 := rfl
theorem zx {i : Nat} (h : i < 2 ^ 31) : ix (nI i) = i := nI_clamp h
theorem zi_t {α : Type} [h : Decidable True] (a b : α) : (@ite α True h a b) = a := if_pos trivial
theorem zi_f {α : Type} [h : Decidable False] (a b : α) : (@ite α False h a b) = b := if_neg id
theorem inbT {i n : Nat} (h : i < n) (hn : n < 2 ^ 31) : inb (nI i) n = true := by
  unfold inb
  rw [nI_toInt (by omega)]
  exact decide_eq_true ⟨by omega, by omega⟩
theorem zg_in {α : Type} {i n : Nat} {o : Option α} (h : i < n) (hn : n < 2 ^ 31) : gd (inb (nI i) n) o = o := by rw [inbT h hn]; rfl
theorem mup_s (m : Mem) (k j : Nat) (x : Int32) : mup m k j x k j = x := by simp [mup]
theorem mup_j {m : Mem} {k j i : Nat} {x : Int32} (h : i ≠ j) : mup m k j x k i = m k i := by simp [mup, h]
theorem mup_c {m : Mem} {k c j i : Nat} {x : Int32} (h : c ≠ k) : mup m k j x c i = m c i := by simp [mup, h]
theorem mup_if (m : Mem) (k j : Nat) (x : Int32) (i : Nat) : mup m k j x k i = if i = j then x else m k i := by simp [mup]
theorem mrw_c {m : Mem} {k c i : Nat} {f : Nat → Int32} (h : c ≠ k) : mrw m k f c i = m c i := by simp [mrw, h]
theorem mup_r {m : Mem} {k j : Nat} {x : Int32} {c : Nat} (h : c ≠ k) : mup m k j x c = m c := mup_o m k j x h
theorem mrw_r {m : Mem} {k : Nat} {f : Nat → Int32} {c : Nat} (h : c ≠ k) : mrw m k f c = m c := mrw_o m k f h
theorem mrw_ka (m : Mem) (k : Nat) (f : Nat → Int32) (i : Nat) : mrw m k f k i = f i := by rw [mrw_k]
theorem gd_t {α : Type} {b : Bool} {o : Option α} (h : b = true) : gd b o = o := by subst h; rfl
theorem cal_t {α β : Type} {o : Option (α × Mem)} {f : α → Mem → Option β} {r : α} {m : Mem} (h : o = some (r, m)) : cal o f = f r m := by subst h; rfl
theorem calv_t {β : Type} {o : Option Mem} {f : Mem → Option β} {m : Mem} (h : o = some m) : calv o f = f m := by subst h; rfl
theorem calx_t {α β : Type} {o : Option ((α ⊕ Nat) × Mem)} {f : α → Mem → Option ((β ⊕ Nat) × Mem)} {r : α} {m : Mem} (h : o = some (.inl r, m)) : calx o f = f r m := by subst h; rfl
theorem calx_e {α β : Type} {o : Option ((α ⊕ Nat) × Mem)} {f : α → Mem → Option ((β ⊕ Nat) × Mem)} {x : Nat} {m : Mem} (h : o = some (.inr x, m)) : calx o f = some (.inr x, m) := by subst h; rfl
theorem bnd_t {α β : Type} (e : α) (f : α → β) : bnd e f = f e := rfl
theorem isb_t {c : Prop} [Decidable c] : isb (if c then (1 : Int32) else 0) = true := by split <;> rfl
theorem nI_inj {a b : Nat} (ha : a < 2 ^ 31) (hb : b < 2 ^ 31) (h : nI a = nI b) : a = b := (nI_eq ha hb).mp h
def nM : Int32 := -1
theorem zm_1 : (-nI 1) = nM := rfl
theorem nM_toInt : nM.toInt = -1 := by decide
theorem zm_2 {a : Nat} (h : a < 2 ^ 31) : (nI a = nM) = False := eq_false (fun e => by
  have h1 := congrArg Int32.toInt e
  rw [nI_toInt h, nM_toInt] at h1
  omega)
theorem zm_3 {a : Nat} (h : a < 2 ^ 31) : (nM = nI a) = False := eq_false (fun e => by
  have h1 := congrArg Int32.toInt e
  rw [nI_toInt h, nM_toInt] at h1
  omega)
theorem zm_4 {a : Nat} (h : a < 2 ^ 31) : (nI a < nM) = False := eq_false (fun e => by
  have h1 := Int32.lt_iff_toInt_lt.mp e
  rw [nI_toInt h, nM_toInt] at h1
  omega)
theorem zm_5 {a : Nat} (h : a < 2 ^ 31) : (nI a ≤ nM) = False := eq_false (fun e => by
  have h1 := Int32.le_iff_toInt_le.mp e
  rw [nI_toInt h, nM_toInt] at h1
  omega)
theorem zm_6 {a : Nat} (h : a < 2 ^ 31) : (nM < nI a) = True := eq_true (Int32.lt_iff_toInt_lt.mpr (by rw [nI_toInt h, nM_toInt]; omega))
theorem zm_7 {a : Nat} (h : a < 2 ^ 31) : (nM ≤ nI a) = True := eq_true (Int32.le_iff_toInt_le.mpr (by rw [nI_toInt h, nM_toInt]; omega))
theorem zm_8 : (nM = nM) = True := eq_self _
theorem zm_9 : nM + nI 1 = nI 0 := by decide
theorem loopW {σ β : Type} (L : Nat → σ → Option β) (I : σ → Prop) (μ : σ → Nat) (Q : Option β → Prop)
    (step : ∀ f s, I s → (∃ s', I s' ∧ μ s' < μ s ∧ L (f + 1) s = L f s') ∨ Q (L (f + 1) s)) :
    ∀ f s, I s → μ s < f → Q (L f s) := by
  intro f
  induction f with
  | zero => intro s _ h; omega
  | succ f ih =>
    intro s hI hm
    rcases step f s hI with ⟨s', h1, h2, h3⟩ | h
    · rw [h3]; exact ih s' h1 (by omega)
    · exact h
theorem loopF {σ β : Type} (L : Nat → σ → Nat → Option β) (b : Nat) (I : Nat → σ → Prop) (Q : Option β → Prop)
    (step : ∀ f i s, i < b → I i s → (∃ s', I (i + 1) s' ∧ L (f + 1) s i = L f s' (i + 1)) ∨ Q (L (f + 1) s i))
    (done : ∀ f s, I b s → Q (L (f + 1) s b)) :
    ∀ f i s, i ≤ b → I i s → b - i < f → Q (L f s i) := by
  intro f
  induction f with
  | zero => intro i s _ _ h; omega
  | succ f ih =>
    intro i s hi hI hf
    rcases Nat.lt_or_ge i b with h | h
    · rcases step f i s h hI with ⟨s', h1, h3⟩ | h
      · rw [h3]; exact ih _ s' h h1 (by omega)
      · exact h
    · have e : i = b := by omega
      subst e
      exact done f s hI
def Off (lo hi : Nat) (m m' : Mem) : Prop := ∀ k, (k < lo ∨ hi ≤ k) → m' k = m k
theorem Off.rf {lo hi : Nat} {m : Mem} : Off lo hi m m := fun _ _ => rfl
theorem Off.tr {lo hi : Nat} {m m' m'' : Mem} (h : Off lo hi m m') (h2 : Off lo hi m' m'') : Off lo hi m m'' := fun k hk => (h2 k hk).trans (h k hk)
theorem Off.wd {lo hi lo' hi' : Nat} {m m' : Mem} (h : Off lo hi m m') (h1 : lo' ≤ lo) (h2 : hi ≤ hi') : Off lo' hi' m m' := fun k hk => h k (by omega)
theorem Off.up {lo hi : Nat} {m m' : Mem} {k j : Nat} {x : Int32} (h : Off lo hi m m') (h1 : lo ≤ k) (h2 : k < hi) : Off lo hi m (mup m' k j x) := fun c hc => by
  rw [← h c hc]; exact mup_o m' k j x (by omega)
theorem Off.rw {lo hi : Nat} {m m' : Mem} {k : Nat} {f : Nat → Int32} (h : Off lo hi m m') (h1 : lo ≤ k) (h2 : k < hi) : Off lo hi m (mrw m' k f) := fun c hc => by
  rw [← h c hc]; exact mrw_o m' k f (by omega)
theorem Off.at {lo hi : Nat} {m m' : Mem} (h : Off lo hi m m') {k : Nat} (hk : k < lo ∨ hi ≤ k) (i : Nat) : m' k i = m k i := by rw [h k hk]
theorem nI_or (a b : Nat) : nI a ||| nI b = nI (a ||| b) := by
  apply Int32.toBitVec_inj.mp
  show BitVec.ofNat 32 a ||| BitVec.ofNat 32 b = BitVec.ofNat 32 (a ||| b)
  apply BitVec.eq_of_getLsbD_eq
  intro i hi
  rw [BitVec.getLsbD_or, BitVec.getLsbD_ofNat, BitVec.getLsbD_ofNat, BitVec.getLsbD_ofNat, Nat.testBit_or]
  cases decide (i < 32) <;> simp
theorem nI_orS {a k : Nat} (b : Nat) (h : a < 2 ^ k) : nI (2 ^ k * b) ||| nI a = nI (2 ^ k * b + a) := by
  rw [nI_or, Nat.two_pow_add_eq_or_of_lt h]
abbrev pkA (s u l t : Nat) : Nat := 262144 * s + 16384 * u + 1024 * l + t
theorem pk_packed {s u l t : Nat} (hs : s < 4096) (hu : u < 16) (hl : l < 16) (ht : t < 1024) : P_X7_packedArc (nI s) (nI u) (nI l) (nI t) = nI (pkA s u l t) := by
  unfold P_X7_packedArc q_shl
  rw [pk_shlN ((18 : Int32) &&& 31) 18 (by decide) (by omega), pk_shlN ((14 : Int32) &&& 31) 14 (by decide) (by omega), pk_shlN ((10 : Int32) &&& 31) 10 (by decide) (by omega)]
  rw [show s * 2 ^ 18 = 2 ^ 18 * s by omega, nI_orS s (by omega), show 2 ^ 18 * s + u * 2 ^ 14 = 2 ^ 14 * (16 * s + u) by omega, nI_orS _ (by omega), show 2 ^ 14 * (16 * s + u) + l * 2 ^ 10 = 2 ^ 10 * (256 * s + 16 * u + l) by omega, nI_orS _ (by omega)]
  congr 1
  show 2 ^ 10 * (256 * s + 16 * u + l) + t = 262144 * s + 16384 * u + 1024 * l + t
  omega
theorem pk_from {p : Nat} (h : p < 2 ^ 31) : P_X7_fromOf (nI p) = nI (p / 262144) := by
  unfold P_X7_fromOf q_ushr
  exact pk_ushrN (by omega) 18 18 (by decide)
theorem pk_to {p : Nat} (h : p < 2 ^ 31) : P_X7_toOf (nI p) = nI (p % 1024) := by
  unfold P_X7_toOf
  exact pk_andN (by omega) 10 (by decide)
theorem pk_upper {p : Nat} (h : p < 2 ^ 31) : P_X7_upperOf (nI p) = nI (p / 16384 % 16) := by
  unfold P_X7_upperOf q_ushr
  rw [pk_ushrN (by omega) 14 14 (by decide)]
  exact pk_andN (by omega) 4 (by decide)
theorem pk_lower {p : Nat} (h : p < 2 ^ 31) : P_X7_lowerOf (nI p) = nI (p / 1024 % 16) := by
  unfold P_X7_lowerOf q_ushr
  rw [pk_ushrN (by omega) 10 10 (by decide)]
  exact pk_andN (by omega) 4 (by decide)
theorem pkA_from {s u l t : Nat} (hu : u < 16) (hl : l < 16) (ht : t < 1024) : pkA s u l t / 262144 = s := by unfold pkA; omega
theorem pkA_to {s u l t : Nat} (ht : t < 1024) : pkA s u l t % 1024 = t := by unfold pkA; omega
theorem pkA_upper {s u l t : Nat} (hu : u < 16) (hl : l < 16) (ht : t < 1024) : pkA s u l t / 16384 % 16 = u := by unfold pkA; omega
theorem pkA_lower {s u l t : Nat} (hl : l < 16) (ht : t < 1024) : pkA s u l t / 1024 % 16 = l := by unfold pkA; omega
theorem dr_begin {N n st : Nat} {m : Mem} (hN : 2000 < N) (hn : n ≤ 1024) :
    ∃ m', F_X1_begin N m (nI n) (nI st) = some m' ∧ m' 3 3 = nI n ∧ m' 3 4 = nI st ∧ m' 3 5 = nI 0 ∧ (∀ s, s < n → m' 6 s = nI 0) ∧ Off 3 7 m m' := by
  unfold F_X1_begin
  simp (disch := omega) only [zi_t, zi_f, bnd_t, zg_in, zx, nI_ltI, nI_leI, nI_eq, nI_add, pk_mul, pk_sub, mup_s, mup_c, mup_j, mrw_c, if_pos, if_neg, zm_1, zm_2, zm_3, zm_4, zm_5, zm_6, zm_7, zm_8, zm_9, zf_0, zf_1, zf_2, zf_3, zf_4, zf_5, zf_6, zf_7, zf_8, zf_9, zf_10, zf_14, zf_15, zf_16, zf_18, zf_19, zf_20, zf_24, zf_30, zf_31, zf_32, zf_33, zf_99, zf_100, zf_160, zf_200, zf_287, zf_288, zf_300, zf_1000, zf_1023, zf_1024, zf_1600, zf_3840, zf_25600, zf_36000, zf_1000000, zf_1000000000, zf_2000000000, zf_11560, za_1, za_2, za_4, za_5, za_6, za_7, za_8, za_9, za_10, za_11, za_12, za_14, za_15, za_22, za_23, za_25, za_26, za_27, za_28, za_29, za_30, za_31, za_32, za_33, za_34, za_35, za_41, za_42, za_43, za_44, za_45, za_46, za_47, za_48, za_49, za_61, za_62, za_63, za_64, za_65, za_70]
  refine loopF (fun f (m : Mem) i => L_X1_begin_23 N f m (nI i)) n (fun i m' => m' 3 3 = nI n ∧ m' 3 4 = nI st ∧ m' 3 5 = nI 0 ∧ (∀ s, s < i → m' 6 s = nI 0) ∧ Off 3 7 m m') (fun o => ∃ m', o = some m' ∧ m' 3 3 = nI n ∧ m' 3 4 = nI st ∧ m' 3 5 = nI 0 ∧ (∀ s, s < n → m' 6 s = nI 0) ∧ Off 3 7 m m') ?_ ?_ N 0 _ (Nat.zero_le _) ?_ (by omega)
  · rintro f i m1 hi ⟨h1, h2, h3, h4, h5⟩
    refine Or.inl ⟨mup m1 6 i (nI 0), ⟨?_, ?_, ?_, ?_, h5.up (by omega) (by omega)⟩, ?_⟩
    · simp (disch := omega) only [zi_t, zi_f, bnd_t, zg_in, zx, nI_ltI, nI_leI, nI_eq, nI_add, pk_mul, pk_sub, mup_s, mup_c, mup_j, mrw_c, if_pos, if_neg, zm_1, zm_2, zm_3, zm_4, zm_5, zm_6, zm_7, zm_8, zm_9, zf_0, zf_1, zf_2, zf_3, zf_4, zf_5, zf_6, zf_7, zf_8, zf_9, zf_10, zf_14, zf_15, zf_16, zf_18, zf_19, zf_20, zf_24, zf_30, zf_31, zf_32, zf_33, zf_99, zf_100, zf_160, zf_200, zf_287, zf_288, zf_300, zf_1000, zf_1023, zf_1024, zf_1600, zf_3840, zf_25600, zf_36000, zf_1000000, zf_1000000000, zf_2000000000, zf_11560, za_1, za_2, za_4, za_5, za_6, za_7, za_8, za_9, za_10, za_11, za_12, za_14, za_15, za_22, za_23, za_25, za_26, za_27, za_28, za_29, za_30, za_31, za_32, za_33, za_34, za_35, za_41, za_42, za_43, za_44, za_45, za_46, za_47, za_48, za_49, za_61, za_62, za_63, za_64, za_65, za_70, h1]
    · simp (disch := omega) only [zi_t, zi_f, bnd_t, zg_in, zx, nI_ltI, nI_leI, nI_eq, nI_add, pk_mul, pk_sub, mup_s, mup_c, mup_j, mrw_c, if_pos, if_neg, zm_1, zm_2, zm_3, zm_4, zm_5, zm_6, zm_7, zm_8, zm_9, zf_0, zf_1, zf_2, zf_3, zf_4, zf_5, zf_6, zf_7, zf_8, zf_9, zf_10, zf_14, zf_15, zf_16, zf_18, zf_19, zf_20, zf_24, zf_30, zf_31, zf_32, zf_33, zf_99, zf_100, zf_160, zf_200, zf_287, zf_288, zf_300, zf_1000, zf_1023, zf_1024, zf_1600, zf_3840, zf_25600, zf_36000, zf_1000000, zf_1000000000, zf_2000000000, zf_11560, za_1, za_2, za_4, za_5, za_6, za_7, za_8, za_9, za_10, za_11, za_12, za_14, za_15, za_22, za_23, za_25, za_26, za_27, za_28, za_29, za_30, za_31, za_32, za_33, za_34, za_35, za_41, za_42, za_43, za_44, za_45, za_46, za_47, za_48, za_49, za_61, za_62, za_63, za_64, za_65, za_70, h2]
    · simp (disch := omega) only [zi_t, zi_f, bnd_t, zg_in, zx, nI_ltI, nI_leI, nI_eq, nI_add, pk_mul, pk_sub, mup_s, mup_c, mup_j, mrw_c, if_pos, if_neg, zm_1, zm_2, zm_3, zm_4, zm_5, zm_6, zm_7, zm_8, zm_9, zf_0, zf_1, zf_2, zf_3, zf_4, zf_5, zf_6, zf_7, zf_8, zf_9, zf_10, zf_14, zf_15, zf_16, zf_18, zf_19, zf_20, zf_24, zf_30, zf_31, zf_32, zf_33, zf_99, zf_100, zf_160, zf_200, zf_287, zf_288, zf_300, zf_1000, zf_1023, zf_1024, zf_1600, zf_3840, zf_25600, zf_36000, zf_1000000, zf_1000000000, zf_2000000000, zf_11560, za_1, za_2, za_4, za_5, za_6, za_7, za_8, za_9, za_10, za_11, za_12, za_14, za_15, za_22, za_23, za_25, za_26, za_27, za_28, za_29, za_30, za_31, za_32, za_33, za_34, za_35, za_41, za_42, za_43, za_44, za_45, za_46, za_47, za_48, za_49, za_61, za_62, za_63, za_64, za_65, za_70, h3]
    · intro s hs
      rw [mup_if]
      split
      · rfl
      · exact h4 s (by omega)
    · show S_X1_begin_23 N (L_X1_begin_23 N f) m1 (nI i) = _
      unfold S_X1_begin_23
      simp (disch := omega) only [zi_t, zi_f, bnd_t, zg_in, zx, nI_ltI, nI_leI, nI_eq, nI_add, pk_mul, pk_sub, mup_s, mup_c, mup_j, mrw_c, if_pos, if_neg, zm_1, zm_2, zm_3, zm_4, zm_5, zm_6, zm_7, zm_8, zm_9, zf_0, zf_1, zf_2, zf_3, zf_4, zf_5, zf_6, zf_7, zf_8, zf_9, zf_10, zf_14, zf_15, zf_16, zf_18, zf_19, zf_20, zf_24, zf_30, zf_31, zf_32, zf_33, zf_99, zf_100, zf_160, zf_200, zf_287, zf_288, zf_300, zf_1000, zf_1023, zf_1024, zf_1600, zf_3840, zf_25600, zf_36000, zf_1000000, zf_1000000000, zf_2000000000, zf_11560, za_1, za_2, za_4, za_5, za_6, za_7, za_8, za_9, za_10, za_11, za_12, za_14, za_15, za_22, za_23, za_25, za_26, za_27, za_28, za_29, za_30, za_31, za_32, za_33, za_34, za_35, za_41, za_42, za_43, za_44, za_45, za_46, za_47, za_48, za_49, za_61, za_62, za_63, za_64, za_65, za_70, h1]
  · rintro f m1 ⟨h1, h2, h3, h4, h5⟩
    refine ⟨m1, ?_, h1, h2, h3, h4, h5⟩
    show S_X1_begin_23 N (L_X1_begin_23 N f) m1 (nI n) = _
    unfold S_X1_begin_23
    simp (disch := omega) only [zi_t, zi_f, bnd_t, zg_in, zx, nI_ltI, nI_leI, nI_eq, nI_add, pk_mul, pk_sub, mup_s, mup_c, mup_j, mrw_c, if_pos, if_neg, zm_1, zm_2, zm_3, zm_4, zm_5, zm_6, zm_7, zm_8, zm_9, zf_0, zf_1, zf_2, zf_3, zf_4, zf_5, zf_6, zf_7, zf_8, zf_9, zf_10, zf_14, zf_15, zf_16, zf_18, zf_19, zf_20, zf_24, zf_30, zf_31, zf_32, zf_33, zf_99, zf_100, zf_160, zf_200, zf_287, zf_288, zf_300, zf_1000, zf_1023, zf_1024, zf_1600, zf_3840, zf_25600, zf_36000, zf_1000000, zf_1000000000, zf_2000000000, zf_11560, za_1, za_2, za_4, za_5, za_6, za_7, za_8, za_9, za_10, za_11, za_12, za_14, za_15, za_22, za_23, za_25, za_26, za_27, za_28, za_29, za_30, za_31, za_32, za_33, za_34, za_35, za_41, za_42, za_43, za_44, za_45, za_46, za_47, za_48, za_49, za_61, za_62, za_63, za_64, za_65, za_70, h1]
  · refine ⟨?_, ?_, ?_, ?_, ?_⟩
    · simp (disch := omega) only [zi_t, zi_f, bnd_t, zg_in, zx, nI_ltI, nI_leI, nI_eq, nI_add, pk_mul, pk_sub, mup_s, mup_c, mup_j, mrw_c, if_pos, if_neg, zm_1, zm_2, zm_3, zm_4, zm_5, zm_6, zm_7, zm_8, zm_9, zf_0, zf_1, zf_2, zf_3, zf_4, zf_5, zf_6, zf_7, zf_8, zf_9, zf_10, zf_14, zf_15, zf_16, zf_18, zf_19, zf_20, zf_24, zf_30, zf_31, zf_32, zf_33, zf_99, zf_100, zf_160, zf_200, zf_287, zf_288, zf_300, zf_1000, zf_1023, zf_1024, zf_1600, zf_3840, zf_25600, zf_36000, zf_1000000, zf_1000000000, zf_2000000000, zf_11560, za_1, za_2, za_4, za_5, za_6, za_7, za_8, za_9, za_10, za_11, za_12, za_14, za_15, za_22, za_23, za_25, za_26, za_27, za_28, za_29, za_30, za_31, za_32, za_33, za_34, za_35, za_41, za_42, za_43, za_44, za_45, za_46, za_47, za_48, za_49, za_61, za_62, za_63, za_64, za_65, za_70]
    · simp (disch := omega) only [zi_t, zi_f, bnd_t, zg_in, zx, nI_ltI, nI_leI, nI_eq, nI_add, pk_mul, pk_sub, mup_s, mup_c, mup_j, mrw_c, if_pos, if_neg, zm_1, zm_2, zm_3, zm_4, zm_5, zm_6, zm_7, zm_8, zm_9, zf_0, zf_1, zf_2, zf_3, zf_4, zf_5, zf_6, zf_7, zf_8, zf_9, zf_10, zf_14, zf_15, zf_16, zf_18, zf_19, zf_20, zf_24, zf_30, zf_31, zf_32, zf_33, zf_99, zf_100, zf_160, zf_200, zf_287, zf_288, zf_300, zf_1000, zf_1023, zf_1024, zf_1600, zf_3840, zf_25600, zf_36000, zf_1000000, zf_1000000000, zf_2000000000, zf_11560, za_1, za_2, za_4, za_5, za_6, za_7, za_8, za_9, za_10, za_11, za_12, za_14, za_15, za_22, za_23, za_25, za_26, za_27, za_28, za_29, za_30, za_31, za_32, za_33, za_34, za_35, za_41, za_42, za_43, za_44, za_45, za_46, za_47, za_48, za_49, za_61, za_62, za_63, za_64, za_65, za_70]
    · simp (disch := omega) only [zi_t, zi_f, bnd_t, zg_in, zx, nI_ltI, nI_leI, nI_eq, nI_add, pk_mul, pk_sub, mup_s, mup_c, mup_j, mrw_c, if_pos, if_neg, zm_1, zm_2, zm_3, zm_4, zm_5, zm_6, zm_7, zm_8, zm_9, zf_0, zf_1, zf_2, zf_3, zf_4, zf_5, zf_6, zf_7, zf_8, zf_9, zf_10, zf_14, zf_15, zf_16, zf_18, zf_19, zf_20, zf_24, zf_30, zf_31, zf_32, zf_33, zf_99, zf_100, zf_160, zf_200, zf_287, zf_288, zf_300, zf_1000, zf_1023, zf_1024, zf_1600, zf_3840, zf_25600, zf_36000, zf_1000000, zf_1000000000, zf_2000000000, zf_11560, za_1, za_2, za_4, za_5, za_6, za_7, za_8, za_9, za_10, za_11, za_12, za_14, za_15, za_22, za_23, za_25, za_26, za_27, za_28, za_29, za_30, za_31, za_32, za_33, za_34, za_35, za_41, za_42, za_43, za_44, za_45, za_46, za_47, za_48, za_49, za_61, za_62, za_63, za_64, za_65, za_70]
    · intro s hs; omega
    · exact ((Off.rf.up (by omega) (by omega)).up (by omega) (by omega)).up (by omega) (by omega)
