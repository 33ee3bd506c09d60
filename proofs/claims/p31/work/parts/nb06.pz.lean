abbrev PS : Type := Int32 × Int32
abbrev XS : Type := List PS × (Nat → Int32) × (Nat → Int32) × (Nat → Int32)
def ixp : List PS → PS → Nat
  | [], _ => 0
  | q :: P, p => if q = p then 0 else ixp P p + 1
theorem ixp_le : ∀ (P : List PS) (p : PS), ixp P p ≤ P.length
  | [], _ => Nat.le_refl _
  | q :: P, p => by
    rw [ixp, List.length_cons]
    have := ixp_le P p
    split <;> omega
theorem ixp_hit : ∀ {P : List PS} {p : PS}, ixp P p < P.length → P[ixp P p]? = some p
  | [], _, h => absurd h (Nat.not_lt_zero _)
  | q :: P, p, h => by
    rw [ixp] at h ⊢
    rw [List.length_cons] at h
    by_cases e : q = p
    · rw [if_pos e, e]; rfl
    · rw [if_neg e] at h ⊢
      rw [List.getElem?_cons_succ]
      exact ixp_hit (by omega)
theorem ixp_first : ∀ {P : List PS} {p : PS} {i : Nat} {q : PS}, i < ixp P p → P[i]? = some q → q ≠ p
  | [], _, i, q, h, _ => absurd h (Nat.not_lt_zero _)
  | a :: P, p, i, q, h, hq => by
    rw [ixp] at h
    by_cases e : a = p
    · rw [if_pos e] at h; exact absurd h (Nat.not_lt_zero _)
    · rw [if_neg e] at h
      cases i with
      | zero =>
        have : a = q := Option.some.inj hq
        rw [← this]; exact e
      | succ i =>
        rw [List.getElem?_cons_succ] at hq
        exact ixp_first (P := P) (by omega) hq
theorem ixp_of {P : List PS} {p : PS} {i : Nat} (hi : i ≤ P.length) (h1 : ∀ j q, j < i → P[j]? = some q → q ≠ p) (h2 : i < P.length → P[i]? = some p) : ixp P p = i := by
  rcases Nat.lt_trichotomy (ixp P p) i with h | h | h
  · exact absurd rfl (h1 _ p h (ixp_hit (by omega)))
  · exact h
  · have := ixp_le P p
    exact absurd rfl (ixp_first h (h2 (by omega)))
def fup (f : Nat → Int32) (i : Nat) (v : Int32) : Nat → Int32 := fun j => if j = i then v else f j
def exL (fA fB : Int32 → Nat → Int32) (kp : Int32 → Int32 → Bool) (s : XS) (k x : Nat) : Option XS :=
  if kp (fA (s.1.getD k (nI 0, nI 0)).1 x) (fB (s.1.getD k (nI 0, nI 0)).2 x) = true then
    (if ixp s.1 (fA (s.1.getD k (nI 0, nI 0)).1 x, fB (s.1.getD k (nI 0, nI 0)).2 x) < s.1.length then some (s.1, fup s.2.1 (8 * k + x) (nI (ixp s.1 (fA (s.1.getD k (nI 0, nI 0)).1 x, fB (s.1.getD k (nI 0, nI 0)).2 x))), s.2.2.1, s.2.2.2)
    else if s.1.length < 200 then some (s.1 ++ [(fA (s.1.getD k (nI 0, nI 0)).1 x, fB (s.1.getD k (nI 0, nI 0)).2 x)], fup s.2.1 (8 * k + x) (nI s.1.length), fup s.2.2.1 s.1.length (nI k), fup s.2.2.2 s.1.length (nI x))
    else none)
  else some (s.1, fup s.2.1 (8 * k + x) nM, s.2.2.1, s.2.2.2)
def exX (fA fB : Int32 → Nat → Int32) (kp : Int32 → Int32 → Bool) (s : XS) (k : Nat) : Nat → Option XS
  | 0 => some s
  | x + 1 => (exX fA fB kp s k x).bind (fun s => exL fA fB kp s k x)
def exI (a b : Int32) : XS := ([(a, b)], fun _ => nM, fun _ => nM, fun _ => nM)
def exR (fA fB : Int32 → Nat → Int32) (kp : Int32 → Int32 → Bool) (a b : Int32) : Nat → Option XS
  | 0 => some (exI a b)
  | k + 1 => (exR fA fB kp a b k).bind (fun s => if k < s.1.length then exX fA fB kp s k 8 else some s)
theorem exX_none {fA fB : Int32 → Nat → Int32} {kp : Int32 → Int32 → Bool} {s : XS} {k x : Nat} (h : exX fA fB kp s k x = none) : ∀ d, exX fA fB kp s k (x + d) = none
  | 0 => h
  | d + 1 => by
    show (exX fA fB kp s k (x + d)).bind _ = none
    rw [exX_none h d]; rfl
theorem exR_none {fA fB : Int32 → Nat → Int32} {kp : Int32 → Int32 → Bool} {a b : Int32} {k : Nat} (h : exR fA fB kp a b k = none) : ∀ d, exR fA fB kp a b (k + d) = none
  | 0 => h
  | d + 1 => by
    show (exR fA fB kp a b (k + d)).bind _ = none
    rw [exR_none h d]; rfl
theorem exR_end {fA fB : Int32 → Nat → Int32} {kp : Int32 → Int32 → Bool} {a b : Int32} {k : Nat} {s : XS} (h : exR fA fB kp a b k = some s) (hk : s.1.length ≤ k) : ∀ d, exR fA fB kp a b (k + d) = some s
  | 0 => h
  | d + 1 => by
    show (exR fA fB kp a b (k + d)).bind _ = some s
    rw [exR_end h hk d]
    show (if k + d < s.1.length then _ else some s) = some s
    rw [if_neg (by omega)]
theorem exL_len {fA fB : Int32 → Nat → Int32} {kp : Int32 → Int32 → Bool} {s s' : XS} {k x : Nat} (h : exL fA fB kp s k x = some s') (hs : s.1.length ≤ 200) : s.1.length ≤ s'.1.length ∧ s'.1.length ≤ 200 := by
  unfold exL at h
  split at h
  · split at h
    · rw [← Option.some.inj h]; exact ⟨Nat.le_refl _, hs⟩
    · split at h
      · rw [← Option.some.inj h]
        show s.1.length ≤ (s.1 ++ [_]).length ∧ (s.1 ++ [_]).length ≤ 200
        rw [List.length_append, List.length_singleton]; omega
      · cases h
  · rw [← Option.some.inj h]; exact ⟨Nat.le_refl _, hs⟩
def kpW (wn : Nat) (a b : Int32) : Bool := if wn = 1 then decide (a ≠ nI 0) && decide (b ≠ nI 0) else if wn = 2 then decide (a ≠ nI 0) || decide (b ≠ nI 0) else decide (a ≠ nI 0)
theorem cl_lookedAt {N wn : Nat} {a b : Int32} {m : Mem} (h : m 20 2 = nI wn) (hw : wn < 3) : F_X5_isLookedAt N m a b = some (bI (kpW wn a b), m) := by
  unfold F_X5_isLookedAt B_X5_isLookedAt_20 B_X5_isLookedAt_21 B_X5_isLookedAt_38 B_X5_isLookedAt_42 B_X5_isLookedAt_43
  unfold kpW
  have : wn = 0 ∨ wn = 1 ∨ wn = 2 := by omega
  by_cases ca : a = nI 0 <;> by_cases cb : b = nI 0 <;> rcases this with rfl | rfl | rfl <;> simp (disch := omega) only [zi_t, zi_f, bnd_t, zg_in, zx, nI_ltI, nI_leI, nI_eq, nI_add, pk_mul, pk_sub, mup_s, mup_c, mup_j, mrw_c, if_pos, if_neg, zm_1, zm_2, zm_3, zm_4, zm_5, zm_6, zm_7, zm_8, zm_9, zf_0, zf_1, zf_2, zf_3, zf_4, zf_5, zf_6, zf_7, zf_8, zf_9, zf_10, zf_14, zf_15, zf_16, zf_18, zf_19, zf_20, zf_24, zf_30, zf_31, zf_32, zf_33, zf_99, zf_100, zf_160, zf_200, zf_287, zf_288, zf_300, zf_1000, zf_1023, zf_1024, zf_1600, zf_3840, zf_25600, zf_36000, zf_1000000, zf_1000000000, zf_2000000000, zf_11560, za_1, za_2, za_4, za_5, za_6, za_7, za_8, za_9, za_10, za_11, za_12, za_14, za_15, za_22, za_23, za_25, za_26, za_27, za_28, za_29, za_30, za_31, za_32, za_33, za_34, za_35, za_41, za_42, za_43, za_44, za_45, za_46, za_47, za_48, za_49, za_61, za_62, za_63, za_64, za_65, za_70, h, ca, cb] <;> simp [ca, cb, bI] <;> rfl
def wnW (what : Nat) : Nat := if what = 1 then 1 else if what = 3 then 2 else 0
def CX (m : Mem) (s : XS) (J : Nat) : Prop := m 20 8 = nI s.1.length ∧ (∀ i p, s.1[i]? = some p → m 27 i = p.1 ∧ m 28 i = p.2) ∧ (∀ i, i < s.1.length → m 30 i = s.2.2.1 i) ∧ (∀ i, 1 ≤ i → i < s.1.length → m 31 i = s.2.2.2 i) ∧ ∀ j, j < J → m 29 j = s.2.1 j
def FrE (m m' : Mem) : Prop := (∀ k, k ≠ 20 → (k < 27 ∨ 32 ≤ k) → m' k = m k) ∧ ∀ j, j ≠ 8 → m' 20 j = m 20 j
theorem FrE.rf {m : Mem} : FrE m m := ⟨fun _ _ _ => rfl, fun _ _ => rfl⟩
theorem FrE.tr {m m' m'' : Mem} (h : FrE m m') (h2 : FrE m' m'') : FrE m m'' := ⟨fun k a b => by rw [h2.1 k a b, h.1 k a b], fun j hj => by rw [h2.2 j hj, h.2 j hj]⟩
theorem FrE.up {m m' : Mem} {k j : Nat} {x : Int32} (h : FrE m m') (h1 : 27 ≤ k) (h2 : k < 32) : FrE m (mup m' k j x) := ⟨fun c a b => by rw [mup_r (by omega), h.1 c a b], fun i hi => by rw [mup_c (by omega), h.2 i hi]⟩
theorem FrE.sl {m m' : Mem} {x : Int32} (h : FrE m m') : FrE m (mup m' 20 8 x) := ⟨fun c a b => by rw [mup_r a, h.1 c a b], fun i hi => by rw [mup_j hi, h.2 i hi]⟩
theorem cl_placeOf {N : Nat} {a b : Int32} {m : Mem} {s : XS} {J : Nat} (hN : 40000 < N) (h : CX m s J) (hl : s.1.length ≤ 200) : F_X5_placeOf N m a b = some (nI (ixp s.1 (a, b)), m) := by
  obtain ⟨h1, h2, _⟩ := h
  unfold F_X5_placeOf
  refine loopF (σ := Unit) (fun f _ i => L_X5_placeOf_2 N f m a b (nI i)) s.1.length (fun i _ => ∀ j q, j < i → s.1[j]? = some q → q ≠ (a, b)) (fun o => o = some (nI (ixp s.1 (a, b)), m)) ?_ ?_ N 0 () (Nat.zero_le _) (fun j q hj => absurd hj (Nat.not_lt_zero _)) (by omega)
  · rintro f i _ hi hI
    obtain ⟨p, hp⟩ : ∃ p, s.1[i]? = some p := ⟨_, List.getElem?_eq_getElem hi⟩
    obtain ⟨e1, e2⟩ := h2 i p hp
    have hgo : p ≠ (a, b) → ∀ j q, j < i + 1 → s.1[j]? = some q → q ≠ (a, b) := by
      intro hne j q hj hq
      by_cases e : j = i
      · rw [e, hp] at hq
        rw [← Option.some.inj hq]; exact hne
      · exact hI j q (by omega) hq
    show (∃ s', _ ∧ S_X5_placeOf_2 N (L_X5_placeOf_2 N f) m a b (nI i) = _) ∨ S_X5_placeOf_2 N (L_X5_placeOf_2 N f) m a b (nI i) = _
    unfold S_X5_placeOf_2 B_X5_placeOf_32
    by_cases c1 : p.1 = a
    · by_cases c2 : p.2 = b
      · right
        have hpe : p = (a, b) := Prod.ext c1 c2
        rw [ixp_of (by omega) hI (fun _ => by rw [hp, hpe])]
        simp (disch := omega) only [zi_t, zi_f, bnd_t, zg_in, zx, nI_ltI, nI_leI, nI_eq, nI_add, pk_mul, pk_sub, mup_s, mup_c, mup_j, mrw_c, if_pos, if_neg, zm_1, zm_2, zm_3, zm_4, zm_5, zm_6, zm_7, zm_8, zm_9, zf_0, zf_1, zf_2, zf_3, zf_4, zf_5, zf_6, zf_7, zf_8, zf_9, zf_10, zf_14, zf_15, zf_16, zf_18, zf_19, zf_20, zf_24, zf_30, zf_31, zf_32, zf_33, zf_99, zf_100, zf_160, zf_200, zf_287, zf_288, zf_300, zf_1000, zf_1023, zf_1024, zf_1600, zf_3840, zf_25600, zf_36000, zf_1000000, zf_1000000000, zf_2000000000, zf_11560, za_1, za_2, za_4, za_5, za_6, za_7, za_8, za_9, za_10, za_11, za_12, za_14, za_15, za_22, za_23, za_25, za_26, za_27, za_28, za_29, za_30, za_31, za_32, za_33, za_34, za_35, za_41, za_42, za_43, za_44, za_45, za_46, za_47, za_48, za_49, za_61, za_62, za_63, za_64, za_65, za_70, h1, e1, e2, c1, c2]
      · left
        refine ⟨(), hgo (fun e => c2 (by rw [e])), ?_⟩
        simp (disch := omega) only [zi_t, zi_f, bnd_t, zg_in, zx, nI_ltI, nI_leI, nI_eq, nI_add, pk_mul, pk_sub, mup_s, mup_c, mup_j, mrw_c, if_pos, if_neg, zm_1, zm_2, zm_3, zm_4, zm_5, zm_6, zm_7, zm_8, zm_9, zf_0, zf_1, zf_2, zf_3, zf_4, zf_5, zf_6, zf_7, zf_8, zf_9, zf_10, zf_14, zf_15, zf_16, zf_18, zf_19, zf_20, zf_24, zf_30, zf_31, zf_32, zf_33, zf_99, zf_100, zf_160, zf_200, zf_287, zf_288, zf_300, zf_1000, zf_1023, zf_1024, zf_1600, zf_3840, zf_25600, zf_36000, zf_1000000, zf_1000000000, zf_2000000000, zf_11560, za_1, za_2, za_4, za_5, za_6, za_7, za_8, za_9, za_10, za_11, za_12, za_14, za_15, za_22, za_23, za_25, za_26, za_27, za_28, za_29, za_30, za_31, za_32, za_33, za_34, za_35, za_41, za_42, za_43, za_44, za_45, za_46, za_47, za_48, za_49, za_61, za_62, za_63, za_64, za_65, za_70, h1, e1, e2, c1, c2]
    · left
      refine ⟨(), hgo (fun e => c1 (by rw [e])), ?_⟩
      simp (disch := omega) only [zi_t, zi_f, bnd_t, zg_in, zx, nI_ltI, nI_leI, nI_eq, nI_add, pk_mul, pk_sub, mup_s, mup_c, mup_j, mrw_c, if_pos, if_neg, zm_1, zm_2, zm_3, zm_4, zm_5, zm_6, zm_7, zm_8, zm_9, zf_0, zf_1, zf_2, zf_3, zf_4, zf_5, zf_6, zf_7, zf_8, zf_9, zf_10, zf_14, zf_15, zf_16, zf_18, zf_19, zf_20, zf_24, zf_30, zf_31, zf_32, zf_33, zf_99, zf_100, zf_160, zf_200, zf_287, zf_288, zf_300, zf_1000, zf_1023, zf_1024, zf_1600, zf_3840, zf_25600, zf_36000, zf_1000000, zf_1000000000, zf_2000000000, zf_11560, za_1, za_2, za_4, za_5, za_6, za_7, za_8, za_9, za_10, za_11, za_12, za_14, za_15, za_22, za_23, za_25, za_26, za_27, za_28, za_29, za_30, za_31, za_32, za_33, za_34, za_35, za_41, za_42, za_43, za_44, za_45, za_46, za_47, za_48, za_49, za_61, za_62, za_63, za_64, za_65, za_70, h1, e1, c1]
  · rintro f _ hI
    rw [ixp_of (Nat.le_refl _) hI (fun h => absurd h (Nat.lt_irrefl _))]
    show S_X5_placeOf_2 N (L_X5_placeOf_2 N f) m a b (nI s.1.length) = _
    unfold S_X5_placeOf_2
    simp (disch := omega) only [zi_t, zi_f, bnd_t, zg_in, zx, nI_ltI, nI_leI, nI_eq, nI_add, pk_mul, pk_sub, mup_s, mup_c, mup_j, mrw_c, if_pos, if_neg, zm_1, zm_2, zm_3, zm_4, zm_5, zm_6, zm_7, zm_8, zm_9, zf_0, zf_1, zf_2, zf_3, zf_4, zf_5, zf_6, zf_7, zf_8, zf_9, zf_10, zf_14, zf_15, zf_16, zf_18, zf_19, zf_20, zf_24, zf_30, zf_31, zf_32, zf_33, zf_99, zf_100, zf_160, zf_200, zf_287, zf_288, zf_300, zf_1000, zf_1023, zf_1024, zf_1600, zf_3840, zf_25600, zf_36000, zf_1000000, zf_1000000000, zf_2000000000, zf_11560, za_1, za_2, za_4, za_5, za_6, za_7, za_8, za_9, za_10, za_11, za_12, za_14, za_15, za_22, za_23, za_25, za_26, za_27, za_28, za_29, za_30, za_31, za_32, za_33, za_34, za_35, za_41, za_42, za_43, za_44, za_45, za_46, za_47, za_48, za_49, za_61, za_62, za_63, za_64, za_65, za_70, h1]
