theorem an_inj {o o' : Option Nat} (h : ∀ a, o = some a → a < 2 ^ 30) (h' : ∀ a, o' = some a → a < 2 ^ 30) (e : an o = an o') : o = o' := by
  cases o with
  | none =>
    cases o' with
    | none => rfl
    | some b =>
      have hb := h' b rfl
      have e : nM = nI b := e
      rw [zm_3 (by omega)] at e
      exact e.elim
  | some a =>
    have ha := h a rfl
    cases o' with
    | none =>
      have e : nI a = nM := e
      rw [zm_2 (by omega)] at e
      exact e.elim
    | some b =>
      have hb := h' b rfl
      have e : nI a = nI b := e
      rw [(nI_eq (by omega) (by omega)).mp e]
def DOf (s : XS) (d : Nat → Nat → Option Nat) : Prop := ∀ k x, k < s.1.length → x < 8 → s.2.1 (8 * k + x) = an (d k x) ∧ ∀ j, d k x = some j → j < s.1.length
theorem xok_d {s : XS} (h : XOK s (8 * s.1.length)) : ∃ d, DOf s d := by
  have hch : ∀ p : Nat × Nat, ∃ o : Option Nat, p.1 < s.1.length → p.2 < 8 → s.2.1 (8 * p.1 + p.2) = an o ∧ ∀ j, o = some j → j < s.1.length := by
    intro p
    by_cases c : p.1 < s.1.length ∧ p.2 < 8
    · rcases h.2.2.2.1 (8 * p.1 + p.2) (by omega) with e | ⟨i, hi, e⟩
      · exact ⟨none, fun _ _ => ⟨e, fun j hj => by cases hj⟩⟩
      · exact ⟨some i, fun _ _ => ⟨e, fun j hj => by rw [← Option.some.inj hj]; exact hi⟩⟩
    · exact ⟨none, fun h1 h2 => absurd ⟨h1, h2⟩ c⟩
  obtain ⟨f, hf⟩ := Classical.axiomOfChoice hch
  exact ⟨fun k x => f (k, x), fun k x hk hx => hf (k, x) hk hx⟩
def dR (d : Nat → Nat → Option Nat) (c i j : Nat) : Prop := i < c ∧ ∃ x, x < 8 ∧ d i x = some j
theorem dR_all {s : XS} {d : Nat → Nat → Option Nat} (h : XOK s (8 * s.1.length)) (hd : DOf s d) : ∀ i, i < s.1.length → Rc (dR d s.1.length) 0 i := by
  obtain ⟨pr, by', q1, q2⟩ := xok_pr h
  have hl := h.2.1
  have key : ∀ b i, i < b → i < s.1.length → Rc (dR d s.1.length) 0 i := by
    intro b
    induction b with
    | zero => intro i hi; exact absurd hi (Nat.not_lt_zero _)
    | succ b ih =>
      intro i hib hi
      rcases Nat.eq_zero_or_pos i with e | e
      · rw [e]; exact Rc.rf
      · obtain ⟨e1, e2, e3, e4⟩ := q2 i e hi
        have hp := q1 i e
        obtain ⟨e5, e6⟩ := hd (pr i) (by' i) (by omega) e3
        have e7 : d (pr i) (by' i) = some i := an_inj (fun a ha => by have := e6 a ha; omega) (fun a ha => by rw [← Option.some.inj ha]; omega) (by rw [← e5, e4]; rfl)
        exact (ih (pr i) (by omega) (by omega)).st ⟨by omega, by' i, e3, e7⟩
  intro i hi
  exact key (i + 1) i (by omega) hi
def UOf (d : Nat → Nat → Option Nat) (wa : Nat → Bool) (c : Nat) (u : Nat → Bool) : Prop := ∀ i, u i = true ↔ i < c ∧ ∃ j, j < c ∧ wa j = true ∧ Rc (dR d c) i j
theorem uof_ex (d : Nat → Nat → Option Nat) (wa : Nat → Bool) (c : Nat) : ∃ u, UOf d wa c u := by
  classical
  exact ⟨fun i => decide (i < c ∧ ∃ j, j < c ∧ wa j = true ∧ Rc (dR d c) i j), fun i => decide_eq_true_iff⟩
theorem uof_fix {d : Nat → Nat → Option Nat} {wa u M : Nat → Bool} {c : Nat} (hu : UOf d wa c u) (h1 : ∀ i, i < c → M i = true → u i = true) (h2 : ∀ i, i < c → wa i = true → M i = true) (h3 : ∀ i j, dR d c i j → M j = true → M i = true) : ∀ i, i < c → M i = u i := by
  intro i hi
  rw [Bool.eq_iff_iff]
  refine ⟨h1 i hi, fun h => ?_⟩
  obtain ⟨_, j, hj, hw, hr⟩ := (hu i).mp h
  exact hr.rev.cl (S := fun x => M x = true) (h2 j hj hw) (fun x y hx hr => h3 y x hr hx)
theorem uof_st {d : Nat → Nat → Option Nat} {wa u : Nat → Bool} {c : Nat} (hu : UOf d wa c u) {i j : Nat} (h : dR d c i j) (hj : u j = true) : u i = true := by
  obtain ⟨h1, k, hk, hw, hr⟩ := (hu j).mp hj
  exact (hu i).mpr ⟨h.1, k, hk, hw, Rc.hd h hr⟩
theorem uof_wa {d : Nat → Nat → Option Nat} {wa u : Nat → Bool} {c : Nat} (hu : UOf d wa c u) {i : Nat} (hi : i < c) (h : wa i = true) : u i = true := (hu i).mpr ⟨hi, i, hi, h, Rc.rf⟩
def CRw (m : Mem) (a c : Nat) (M : Nat → Bool) : Prop := ∀ i, i < c → m a i = bI (M i)
def hitB (d : Nat → Nat → Option Nat) (M : Nat → Bool) (k n : Nat) : Bool := (List.range n).any (fun x => match d k x with | none => false | some j => M j)
theorem hitB_s {d : Nat → Nat → Option Nat} {M : Nat → Bool} {k n : Nat} : hitB d M k (n + 1) = (hitB d M k n || (match d k n with | none => false | some j => M j)) := by
  unfold hitB
  rw [List.range_succ, List.any_append]
  simp
theorem hitB_iff {d : Nat → Nat → Option Nat} {M : Nat → Bool} {k n : Nat} : hitB d M k n = true ↔ ∃ x j, x < n ∧ d k x = some j ∧ M j = true := by
  unfold hitB
  rw [List.any_eq_true]
  constructor
  · rintro ⟨x, hx, h⟩
    have hx := List.mem_range.mp hx
    cases hd : d k x with
    | none => rw [hd] at h; cases h
    | some j => rw [hd] at h; exact ⟨x, j, hx, hd, h⟩
  · rintro ⟨x, j, hx, hd, h⟩
    exact ⟨x, List.mem_range.mpr hx, by rw [hd]; exact h⟩
theorem hitB_le {d : Nat → Nat → Option Nat} {M : Nat → Bool} {k n n' : Nat} (h : hitB d M k n = true) (hn : n ≤ n') : hitB d M k n' = true := by
  obtain ⟨x, j, hx, hd⟩ := hitB_iff.mp h
  exact hitB_iff.mpr ⟨x, j, by omega, hd⟩
theorem cl_leads {N k : Nat} {m : Mem} {s : XS} {d : Nat → Nat → Option Nat} {M : Nat → Bool} (hN : 40000 < N) (h : CX m s (8 * s.1.length)) (hl : s.1.length ≤ 200) (hd : DOf s d) (hM : CRw m 32 s.1.length M) (hk : k < s.1.length) : F_X5_leadsToUseful N m (nI k) = some (bI (hitB d M k 8), m) := by
  unfold F_X5_leadsToUseful
  refine loopF (σ := Unit) (fun f _ x => L_X5_leadsToUseful_2 N f m (nI k) (nI x)) 8 (fun x _ => hitB d M k x = false) (fun o => o = some (bI (hitB d M k 8), m)) ?_ ?_ N 0 () (Nat.zero_le _) rfl (by omega)
  · rintro f x _ hx hI
    obtain ⟨e1, e2⟩ := hd k x hk hx
    have e29 := h.2.2.2.2 (8 * k + x) (by omega)
    rw [e1] at e29
    have eJ : k * 8 + x = 8 * k + x := by omega
    have hs := hitB_s (d := d) (M := M) (k := k) (n := x)
    rw [hI, Bool.false_or] at hs
    show (∃ s' : Unit, _ ∧ S_X5_leadsToUseful_2 N (L_X5_leadsToUseful_2 N f) m (nI k) (nI x) = _) ∨ S_X5_leadsToUseful_2 N (L_X5_leadsToUseful_2 N f) m (nI k) (nI x) = _
    unfold S_X5_leadsToUseful_2 B_X5_leadsToUseful_35
    cases hdx : d k x with
    | none =>
      rw [hdx] at hs e29
      have e29 : m 29 (8 * k + x) = nM := e29
      left
      refine ⟨(), hs, ?_⟩
      simp (disch := omega) only [zi_t, zi_f, bnd_t, zg_in, zx, nI_ltI, nI_leI, nI_eq, nI_add, pk_mul, pk_sub, mup_s, mup_c, mup_j, mrw_c, if_pos, if_neg, zm_1, zm_2, zm_3, zm_4, zm_5, zm_6, zm_7, zm_8, zm_9, zf_0, zf_1, zf_2, zf_3, zf_4, zf_5, zf_6, zf_7, zf_8, zf_9, zf_10, zf_14, zf_15, zf_16, zf_18, zf_19, zf_20, zf_24, zf_30, zf_31, zf_32, zf_33, zf_99, zf_100, zf_160, zf_200, zf_287, zf_288, zf_300, zf_1000, zf_1023, zf_1024, zf_1600, zf_3840, zf_25600, zf_36000, zf_1000000, zf_1000000000, zf_2000000000, zf_11560, za_1, za_2, za_4, za_5, za_6, za_7, za_8, za_9, za_10, za_11, za_12, za_14, za_15, za_22, za_23, za_25, za_26, za_27, za_28, za_29, za_30, za_31, za_32, za_33, za_34, za_35, za_41, za_42, za_43, za_44, za_45, za_46, za_47, za_48, za_49, za_61, za_62, za_63, za_64, za_65, za_70, eJ, e29]
    | some j =>
      rw [hdx] at hs e29
      have e29 : m 29 (8 * k + x) = nI j := e29
      have hj := e2 j hdx
      have e32 := hM j hj
      have hs : hitB d M k (x + 1) = M j := hs
      cases hMj : M j with
      | false =>
        rw [hMj] at hs e32
        left
        refine ⟨(), hs, ?_⟩
        simp (disch := omega) only [zi_t, zi_f, bnd_t, zg_in, zx, nI_ltI, nI_leI, nI_eq, nI_add, pk_mul, pk_sub, mup_s, mup_c, mup_j, mrw_c, if_pos, if_neg, zm_1, zm_2, zm_3, zm_4, zm_5, zm_6, zm_7, zm_8, zm_9, zf_0, zf_1, zf_2, zf_3, zf_4, zf_5, zf_6, zf_7, zf_8, zf_9, zf_10, zf_14, zf_15, zf_16, zf_18, zf_19, zf_20, zf_24, zf_30, zf_31, zf_32, zf_33, zf_99, zf_100, zf_160, zf_200, zf_287, zf_288, zf_300, zf_1000, zf_1023, zf_1024, zf_1600, zf_3840, zf_25600, zf_36000, zf_1000000, zf_1000000000, zf_2000000000, zf_11560, za_1, za_2, za_4, za_5, za_6, za_7, za_8, za_9, za_10, za_11, za_12, za_14, za_15, za_22, za_23, za_25, za_26, za_27, za_28, za_29, za_30, za_31, za_32, za_33, za_34, za_35, za_41, za_42, za_43, za_44, za_45, za_46, za_47, za_48, za_49, za_61, za_62, za_63, za_64, za_65, za_70, eJ, e29, e32, bI_f]
      | true =>
        rw [hMj] at hs e32
        right
        rw [hitB_le hs (by omega)]
        simp (disch := omega) only [zi_t, zi_f, bnd_t, zg_in, zx, nI_ltI, nI_leI, nI_eq, nI_add, pk_mul, pk_sub, mup_s, mup_c, mup_j, mrw_c, if_pos, if_neg, zm_1, zm_2, zm_3, zm_4, zm_5, zm_6, zm_7, zm_8, zm_9, zf_0, zf_1, zf_2, zf_3, zf_4, zf_5, zf_6, zf_7, zf_8, zf_9, zf_10, zf_14, zf_15, zf_16, zf_18, zf_19, zf_20, zf_24, zf_30, zf_31, zf_32, zf_33, zf_99, zf_100, zf_160, zf_200, zf_287, zf_288, zf_300, zf_1000, zf_1023, zf_1024, zf_1600, zf_3840, zf_25600, zf_36000, zf_1000000, zf_1000000000, zf_2000000000, zf_11560, za_1, za_2, za_4, za_5, za_6, za_7, za_8, za_9, za_10, za_11, za_12, za_14, za_15, za_22, za_23, za_25, za_26, za_27, za_28, za_29, za_30, za_31, za_32, za_33, za_34, za_35, za_41, za_42, za_43, za_44, za_45, za_46, za_47, za_48, za_49, za_61, za_62, za_63, za_64, za_65, za_70, eJ, e29, e32, bI_t]
  · rintro f _ hI
    rw [hI]
    show S_X5_leadsToUseful_2 N (L_X5_leadsToUseful_2 N f) m (nI k) (nI 8) = _
    unfold S_X5_leadsToUseful_2
    simp (disch := omega) only [zi_t, zi_f, bnd_t, zg_in, zx, nI_ltI, nI_leI, nI_eq, nI_add, pk_mul, pk_sub, mup_s, mup_c, mup_j, mrw_c, if_pos, if_neg, zm_1, zm_2, zm_3, zm_4, zm_5, zm_6, zm_7, zm_8, zm_9, zf_0, zf_1, zf_2, zf_3, zf_4, zf_5, zf_6, zf_7, zf_8, zf_9, zf_10, zf_14, zf_15, zf_16, zf_18, zf_19, zf_20, zf_24, zf_30, zf_31, zf_32, zf_33, zf_99, zf_100, zf_160, zf_200, zf_287, zf_288, zf_300, zf_1000, zf_1023, zf_1024, zf_1600, zf_3840, zf_25600, zf_36000, zf_1000000, zf_1000000000, zf_2000000000, zf_11560, za_1, za_2, za_4, za_5, za_6, za_7, za_8, za_9, za_10, za_11, za_12, za_14, za_15, za_22, za_23, za_25, za_26, za_27, za_28, za_29, za_30, za_31, za_32, za_33, za_34, za_35, za_41, za_42, za_43, za_44, za_45, za_46, za_47, za_48, za_49, za_61, za_62, za_63, za_64, za_65, za_70]
    rfl
def pI (t : Nat) : Int32 := if t = 0 then nM else nI (t - 1)
theorem pI_s (t : Nat) : pI (t + 1) = nI t := rfl
theorem pI_dec (t : Nat) : nI t + nM = pI t := by
  cases t with
  | zero => decide
  | succ t => exact pk_m1 t
theorem upd_le {M : Nat → Bool} {k i : Nat} (h : M i = true) : (fun x => if x = k then true else M x) i = true := by
  show (if i = k then true else M i) = true
  split
  · rfl
  · exact h
theorem cl_mkPass {N r : Nat} {m : Mem} {s : XS} {d : Nat → Nat → Option Nat} {wa u M0 : Nat → Bool} {rec : Mem → Int32 → Int32 → Option Mem} (hN : 40000 < N) (h : CX m s (8 * s.1.length)) (hl : s.1.length ≤ 200) (hd : DOf s d) (hu : UOf d wa s.1.length u) (hM : CRw m 32 s.1.length M0) (hs0 : ∀ i, i < s.1.length → M0 i = true → u i = true) (hr : r ≤ 300) (h1 : 1 ≤ s.1.length) :
    ∃ m' M fl, L_X5_markUseful_52 N rec N m (nI 0) (nI r) (nI (s.1.length - 1)) = rec m' (bI fl) (nI (r + 1)) ∧ Off 32 33 m m' ∧ CRw m' 32 s.1.length M ∧ (∀ i, i < s.1.length → M i = true → u i = true) ∧ (∀ i, M0 i = true → M i = true) ∧ (fl = false → M = M0 ∧ ∀ i j, dR d s.1.length i j → M0 j = true → M0 i = true) ∧ (fl = true → ∃ i, i < s.1.length ∧ M0 i = false ∧ M i = true) := by
  have e0 : nI (s.1.length - 1) = pI s.1.length := by unfold pI; rw [if_neg (by omega)]
  rw [e0]
  refine loopW (σ := Mem × (Nat → Bool) × Bool × Nat) (fun f x => L_X5_markUseful_52 N rec f x.1 (bI x.2.2.1) (nI r) (pI x.2.2.2))
    (fun x => x.2.2.2 ≤ s.1.length ∧ Off 32 33 m x.1 ∧ CRw x.1 32 s.1.length x.2.1 ∧ (∀ i, i < s.1.length → x.2.1 i = true → u i = true) ∧ (∀ i, M0 i = true → x.2.1 i = true) ∧ (x.2.2.1 = false → x.2.1 = M0 ∧ ∀ i j, x.2.2.2 ≤ i → dR d s.1.length i j → M0 j = true → M0 i = true) ∧ (x.2.2.1 = true → ∃ i, i < s.1.length ∧ M0 i = false ∧ x.2.1 i = true)) (fun x => x.2.2.2)
    (fun o => ∃ m' M fl, o = rec m' (bI fl) (nI (r + 1)) ∧ Off 32 33 m m' ∧ CRw m' 32 s.1.length M ∧ (∀ i, i < s.1.length → M i = true → u i = true) ∧ (∀ i, M0 i = true → M i = true) ∧ (fl = false → M = M0 ∧ ∀ i j, dR d s.1.length i j → M0 j = true → M0 i = true) ∧ (fl = true → ∃ i, i < s.1.length ∧ M0 i = false ∧ M i = true)) ?_ N (m, M0, false, s.1.length) ⟨Nat.le_refl _, Off.rf, hM, hs0, fun _ h => h, fun _ => ⟨rfl, fun i j hi hr => absurd hr.1 (by have hi : s.1.length ≤ i := hi; omega)⟩, fun h => (by cases h)⟩ (by show s.1.length < N; omega)
  rintro f ⟨m1, M, fl, t⟩ hI
  have hI : t ≤ s.1.length ∧ Off 32 33 m m1 ∧ CRw m1 32 s.1.length M ∧ (∀ i, i < s.1.length → M i = true → u i = true) ∧ (∀ i, M0 i = true → M i = true) ∧ (fl = false → M = M0 ∧ ∀ i j, t ≤ i → dR d s.1.length i j → M0 j = true → M0 i = true) ∧ (fl = true → ∃ i, i < s.1.length ∧ M0 i = false ∧ M i = true) := hI
  obtain ⟨i1, i2, i3, i4, i5, i6, i7⟩ := hI
  cases t with
  | zero =>
    right
    refine ⟨m1, M, fl, ?_, i2, i3, i4, i5, fun h => ⟨(i6 h).1, fun i j hr => (i6 h).2 i j (Nat.zero_le _) hr⟩, i7⟩
    show S_X5_markUseful_52 N rec (L_X5_markUseful_52 N rec f) m1 (bI fl) (nI r) nM = _
    unfold S_X5_markUseful_52
    simp (disch := omega) only [zi_t, zi_f, bnd_t, zg_in, zx, nI_ltI, nI_leI, nI_eq, nI_add, pk_mul, pk_sub, mup_s, mup_c, mup_j, mrw_c, if_pos, if_neg, zm_1, zm_2, zm_3, zm_4, zm_5, zm_6, zm_7, zm_8, zm_9, zf_0, zf_1, zf_2, zf_3, zf_4, zf_5, zf_6, zf_7, zf_8, zf_9, zf_10, zf_14, zf_15, zf_16, zf_18, zf_19, zf_20, zf_24, zf_30, zf_31, zf_32, zf_33, zf_99, zf_100, zf_160, zf_200, zf_287, zf_288, zf_300, zf_1000, zf_1023, zf_1024, zf_1600, zf_3840, zf_25600, zf_36000, zf_1000000, zf_1000000000, zf_2000000000, zf_11560, za_1, za_2, za_4, za_5, za_6, za_7, za_8, za_9, za_10, za_11, za_12, za_14, za_15, za_22, za_23, za_25, za_26, za_27, za_28, za_29, za_30, za_31, za_32, za_33, za_34, za_35, za_41, za_42, za_43, za_44, za_45, za_46, za_47, za_48, za_49, za_61, za_62, za_63, za_64, za_65, za_70]
  | succ t =>
    have e32 := i3 t (by omega)
    have hX : CX m1 s (8 * s.1.length) := by
      obtain ⟨t1, t2, t3, t4, t5⟩ := h
      exact ⟨by rw [i2 20 (by omega)]; exact t1, fun i p hp => by rw [i2 27 (by omega), i2 28 (by omega)]; exact t2 i p hp, fun i hi => by rw [i2 30 (by omega)]; exact t3 i hi, fun i h1 hi => by rw [i2 31 (by omega)]; exact t4 i h1 hi, fun j hj => by rw [i2 29 (by omega)]; exact t5 j hj⟩
    have hlead := cl_leads (N := N) hN hX hl hd i3 (by omega : t < s.1.length)
    left
    show ∃ s' : Mem × (Nat → Bool) × Bool × Nat, _ ∧ _ ∧ S_X5_markUseful_52 N rec (L_X5_markUseful_52 N rec f) m1 (bI fl) (nI r) (nI t) = L_X5_markUseful_52 N rec f s'.1 (bI s'.2.2.1) (nI r) (pI s'.2.2.2)
    unfold S_X5_markUseful_52 B_X5_markUseful_82
    have hkeep : (fl = false → M t = true ∨ hitB d M t 8 = false) → (fl = false → M = M0 ∧ ∀ i j, t ≤ i → dR d s.1.length i j → M0 j = true → M0 i = true) := by
      intro hh hfl
      obtain ⟨hMe, hc⟩ := i6 hfl
      refine ⟨hMe, fun i j hi hr hj => ?_⟩
      by_cases e : i = t
      · rcases hh hfl with h1 | h1
        · rw [hMe] at h1; rw [e]; exact h1
        · exfalso
          obtain ⟨hic, x, hx, hdx⟩ := hr
          rw [e] at hdx
          have : hitB d M t 8 = true := hitB_iff.mpr ⟨x, j, hx, hdx, by rw [hMe]; exact hj⟩
          rw [h1] at this; cases this
      · exact hc i j (by omega) hr hj
    cases hMt : M t with
    | true =>
      rw [hMt] at e32
      refine ⟨(m1, M, fl, t), ⟨by show t ≤ _; omega, i2, i3, i4, i5, hkeep (fun _ => Or.inl hMt), i7⟩, by show t < t + 1; omega, ?_⟩
      simp (disch := omega) only [zi_t, zi_f, bnd_t, zg_in, zx, nI_ltI, nI_leI, nI_eq, nI_add, pk_mul, pk_sub, mup_s, mup_c, mup_j, mrw_c, if_pos, if_neg, zm_1, zm_2, zm_3, zm_4, zm_5, zm_6, zm_7, zm_8, zm_9, zf_0, zf_1, zf_2, zf_3, zf_4, zf_5, zf_6, zf_7, zf_8, zf_9, zf_10, zf_14, zf_15, zf_16, zf_18, zf_19, zf_20, zf_24, zf_30, zf_31, zf_32, zf_33, zf_99, zf_100, zf_160, zf_200, zf_287, zf_288, zf_300, zf_1000, zf_1023, zf_1024, zf_1600, zf_3840, zf_25600, zf_36000, zf_1000000, zf_1000000000, zf_2000000000, zf_11560, za_1, za_2, za_4, za_5, za_6, za_7, za_8, za_9, za_10, za_11, za_12, za_14, za_15, za_22, za_23, za_25, za_26, za_27, za_28, za_29, za_30, za_31, za_32, za_33, za_34, za_35, za_41, za_42, za_43, za_44, za_45, za_46, za_47, za_48, za_49, za_61, za_62, za_63, za_64, za_65, za_70, e32, bI_t, pI_dec]
    | false =>
      rw [hMt] at e32
      cases hb : hitB d M t 8 with
      | false =>
        rw [hb] at hlead
        refine ⟨(m1, M, fl, t), ⟨by show t ≤ _; omega, i2, i3, i4, i5, hkeep (fun _ => Or.inr hb), i7⟩, by show t < t + 1; omega, ?_⟩
        simp (disch := omega) only [zi_t, zi_f, bnd_t, zg_in, zx, nI_ltI, nI_leI, nI_eq, nI_add, pk_mul, pk_sub, mup_s, mup_c, mup_j, mrw_c, if_pos, if_neg, zm_1, zm_2, zm_3, zm_4, zm_5, zm_6, zm_7, zm_8, zm_9, zf_0, zf_1, zf_2, zf_3, zf_4, zf_5, zf_6, zf_7, zf_8, zf_9, zf_10, zf_14, zf_15, zf_16, zf_18, zf_19, zf_20, zf_24, zf_30, zf_31, zf_32, zf_33, zf_99, zf_100, zf_160, zf_200, zf_287, zf_288, zf_300, zf_1000, zf_1023, zf_1024, zf_1600, zf_3840, zf_25600, zf_36000, zf_1000000, zf_1000000000, zf_2000000000, zf_11560, za_1, za_2, za_4, za_5, za_6, za_7, za_8, za_9, za_10, za_11, za_12, za_14, za_15, za_22, za_23, za_25, za_26, za_27, za_28, za_29, za_30, za_31, za_32, za_33, za_34, za_35, za_41, za_42, za_43, za_44, za_45, za_46, za_47, za_48, za_49, za_61, za_62, za_63, za_64, za_65, za_70, e32, bI_f]
        rw [cal_t hlead]
        simp (disch := omega) only [zi_t, zi_f, bnd_t, zg_in, zx, nI_ltI, nI_leI, nI_eq, nI_add, pk_mul, pk_sub, mup_s, mup_c, mup_j, mrw_c, if_pos, if_neg, zm_1, zm_2, zm_3, zm_4, zm_5, zm_6, zm_7, zm_8, zm_9, zf_0, zf_1, zf_2, zf_3, zf_4, zf_5, zf_6, zf_7, zf_8, zf_9, zf_10, zf_14, zf_15, zf_16, zf_18, zf_19, zf_20, zf_24, zf_30, zf_31, zf_32, zf_33, zf_99, zf_100, zf_160, zf_200, zf_287, zf_288, zf_300, zf_1000, zf_1023, zf_1024, zf_1600, zf_3840, zf_25600, zf_36000, zf_1000000, zf_1000000000, zf_2000000000, zf_11560, za_1, za_2, za_4, za_5, za_6, za_7, za_8, za_9, za_10, za_11, za_12, za_14, za_15, za_22, za_23, za_25, za_26, za_27, za_28, za_29, za_30, za_31, za_32, za_33, za_34, za_35, za_41, za_42, za_43, za_44, za_45, za_46, za_47, za_48, za_49, za_61, za_62, za_63, za_64, za_65, za_70, bI_f, pI_dec]
      | true =>
        rw [hb] at hlead
        refine ⟨(mup m1 32 t (nI 1), fun x => if x = t then true else M x, true, t), ⟨by show t ≤ _; omega, i2.up (by omega) (by omega), ?_, ?_, fun i hi => upd_le (i5 i hi), fun h => (by cases h), fun _ => ⟨t, by omega, ?_, if_pos rfl⟩⟩, by show t < t + 1; omega, ?_⟩
        · intro i hi
          show mup m1 32 t (nI 1) 32 i = bI (if i = t then true else M i)
          rw [mup_if]
          split
          · rfl
          · exact i3 i hi
        · intro i hi hm
          have hm : (if i = t then true else M i) = true := hm
          by_cases e : i = t
          · obtain ⟨x, j, hx, hdx, hMj⟩ := hitB_iff.mp hb
            have hj := (hd t x (by omega) hx).2 j hdx
            rw [e]
            exact uof_st hu ⟨by omega, x, hx, hdx⟩ (i4 j hj hMj)
          · rw [if_neg e] at hm; exact i4 i hi hm
        · cases h0 : M0 t with
          | false => rfl
          | true => rw [i5 t h0] at hMt; cases hMt
        · simp (disch := omega) only [zi_t, zi_f, bnd_t, zg_in, zx, nI_ltI, nI_leI, nI_eq, nI_add, pk_mul, pk_sub, mup_s, mup_c, mup_j, mrw_c, if_pos, if_neg, zm_1, zm_2, zm_3, zm_4, zm_5, zm_6, zm_7, zm_8, zm_9, zf_0, zf_1, zf_2, zf_3, zf_4, zf_5, zf_6, zf_7, zf_8, zf_9, zf_10, zf_14, zf_15, zf_16, zf_18, zf_19, zf_20, zf_24, zf_30, zf_31, zf_32, zf_33, zf_99, zf_100, zf_160, zf_200, zf_287, zf_288, zf_300, zf_1000, zf_1023, zf_1024, zf_1600, zf_3840, zf_25600, zf_36000, zf_1000000, zf_1000000000, zf_2000000000, zf_11560, za_1, za_2, za_4, za_5, za_6, za_7, za_8, za_9, za_10, za_11, za_12, za_14, za_15, za_22, za_23, za_25, za_26, za_27, za_28, za_29, za_30, za_31, za_32, za_33, za_34, za_35, za_41, za_42, za_43, za_44, za_45, za_46, za_47, za_48, za_49, za_61, za_62, za_63, za_64, za_65, za_70, e32, bI_f]
          rw [cal_t hlead]
          simp (disch := omega) only [zi_t, zi_f, bnd_t, zg_in, zx, nI_ltI, nI_leI, nI_eq, nI_add, pk_mul, pk_sub, mup_s, mup_c, mup_j, mrw_c, if_pos, if_neg, zm_1, zm_2, zm_3, zm_4, zm_5, zm_6, zm_7, zm_8, zm_9, zf_0, zf_1, zf_2, zf_3, zf_4, zf_5, zf_6, zf_7, zf_8, zf_9, zf_10, zf_14, zf_15, zf_16, zf_18, zf_19, zf_20, zf_24, zf_30, zf_31, zf_32, zf_33, zf_99, zf_100, zf_160, zf_200, zf_287, zf_288, zf_300, zf_1000, zf_1023, zf_1024, zf_1600, zf_3840, zf_25600, zf_36000, zf_1000000, zf_1000000000, zf_2000000000, zf_11560, za_1, za_2, za_4, za_5, za_6, za_7, za_8, za_9, za_10, za_11, za_12, za_14, za_15, za_22, za_23, za_25, za_26, za_27, za_28, za_29, za_30, za_31, za_32, za_33, za_34, za_35, za_41, za_42, za_43, za_44, za_45, za_46, za_47, za_48, za_49, za_61, za_62, za_63, za_64, za_65, za_70, bI_t, pI_dec]
