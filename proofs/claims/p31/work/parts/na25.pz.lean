def lpF (l : Option Nat) (x : Nat) : Bool := decide (l = none) || decide (l = some x)
def thS (z : Bool) : Nat := if z = true then 3 else 0
def kn (r : Option Nat) (x k : Nat) : Bool := if k = 1 then decide (r = some x) else if k = 0 then true else !decide (r = some x)
def cpy (l : Option Nat) (s x : Nat) : Nat × Nat := (pkA s x x (thS (lpF l x)), 0)
def rwC (f t : Nat) (l r : Option Nat) (u : Bool) (s : Nat) : ArL := (if r = none then [(pkA s f t (thS (lpF l f)), 0)] else [(pkA s f t (thS (lpF l f) + 1), 0), (pkA s f f (thS (lpF l f) + 2), 0)]) ++ (if u = true then [(pkA s f f (thS (lpF l f)), 0)] else [])
def ckC (f t : Nat) (l r : Option Nat) (u : Bool) (k x : Nat) : ArL := if kn r x k = true then cpy l k x :: (if x = f then rwC f t l r u (3 + k) else [cpy l (3 + k) x]) else []
def ckM (f t : Nat) (l r : Option Nat) (u : Bool) (s x : Nat) : ArL := if kn r x (s % 3) = true then (if x = f ∧ s / 3 ≠ 0 then rwC f t l r u s else [cpy l s x]) else []
abbrev fmN (h : Nat → ArL) (n : Nat) : ArL := (List.range n).flatMap h
theorem fmN_s {h : Nat → ArL} {n : Nat} : fmN h (n + 1) = fmN h n ++ h n := by
  unfold fmN
  rw [List.range_succ, List.flatMap_append]
  simp
theorem fmN_mem {h : Nat → ArL} {n : Nat} {q : Nat × Nat} : q ∈ fmN h n ↔ ∃ k, k < n ∧ q ∈ h k := by
  unfold fmN
  rw [List.mem_flatMap]
  constructor
  · rintro ⟨k, hk, hq⟩; exact ⟨k, List.mem_range.mp hk, hq⟩
  · rintro ⟨k, hk, hq⟩; exact ⟨k, List.mem_range.mpr hk, hq⟩
theorem fmN_len {h : Nat → ArL} {c : Nat} (hc : ∀ k, (h k).length ≤ c) : ∀ n, (fmN h n).length ≤ c * n
  | 0 => Nat.zero_le _
  | n + 1 => by
    rw [fmN_s, List.length_append, Nat.mul_add]
    have := fmN_len hc n
    have := hc n
    omega
abbrev ruD (f t : Nat) (l r : Option Nat) (u : Bool) : ArL := fmN (fun k => fmN (ckC f t l r u k) 8) 3
abbrev ruM (f t : Nat) (l r : Option Nat) (u : Bool) : ArL := fmN (fun s => fmN (ckM f t l r u s) 8) 6
theorem rwC_len (f t : Nat) (l r : Option Nat) (u : Bool) (s : Nat) : (rwC f t l r u s).length ≤ 3 := by
  unfold rwC
  rw [List.length_append]
  split <;> split <;> simp
theorem ckC_len (f t : Nat) (l r : Option Nat) (u : Bool) (k x : Nat) : (ckC f t l r u k x).length ≤ 4 := by
  unfold ckC
  split
  · rw [List.length_cons]
    split
    · have := rwC_len f t l r u (3 + k); omega
    · simp
  · simp
theorem ckM_len (f t : Nat) (l r : Option Nat) (u : Bool) (k x : Nat) : (ckM f t l r u k x).length ≤ 4 := by
  unfold ckM
  split
  · split
    · have := rwC_len f t l r u k; omega
    · simp
  · simp
theorem ruD_len (f t : Nat) (l r : Option Nat) (u : Bool) : (ruD f t l r u).length ≤ 96 := fmN_len (c := 32) (fun k => fmN_len (c := 4) (ckC_len f t l r u k) 8) 3
theorem ruM_len (f t : Nat) (l r : Option Nat) (u : Bool) : (ruM f t l r u).length ≤ 192 := fmN_len (c := 32) (fun k => fmN_len (c := 4) (ckM_len f t l r u k) 8) 6
theorem ru_same {f t : Nat} {l r : Option Nat} {u : Bool} (q : Nat × Nat) : q ∈ ruD f t l r u ↔ q ∈ ruM f t l r u := by
  rw [fmN_mem, fmN_mem]
  constructor
  · rintro ⟨k, hk, hq⟩
    obtain ⟨x, hx, hq⟩ := fmN_mem.mp hq
    unfold ckC at hq
    by_cases hkn : kn r x k = true
    · rw [if_pos hkn] at hq
      rcases List.mem_cons.mp hq with e | hq
      · refine ⟨k, by omega, fmN_mem.mpr ⟨x, hx, ?_⟩⟩
        unfold ckM
        rw [Nat.mod_eq_of_lt hk, if_pos hkn, if_neg (by rintro ⟨_, h⟩; exact h (by omega))]
        rw [e]; exact List.mem_singleton.mpr rfl
      · refine ⟨3 + k, by omega, fmN_mem.mpr ⟨x, hx, ?_⟩⟩
        unfold ckM
        rw [show (3 + k) % 3 = k by omega, if_pos hkn]
        by_cases hf : x = f
        · rw [if_pos hf] at hq
          rw [if_pos ⟨hf, by omega⟩]; exact hq
        · rw [if_neg hf] at hq
          rw [if_neg (fun h => hf h.1)]; exact hq
    · rw [if_neg hkn] at hq; cases hq
  · rintro ⟨s, hs, hq⟩
    obtain ⟨x, hx, hq⟩ := fmN_mem.mp hq
    unfold ckM at hq
    by_cases hkn : kn r x (s % 3) = true
    · rw [if_pos hkn] at hq
      refine ⟨s % 3, by omega, fmN_mem.mpr ⟨x, hx, ?_⟩⟩
      unfold ckC
      rw [if_pos hkn]
      by_cases h3 : s < 3
      · rw [if_neg (by rintro ⟨_, h⟩; exact h (by omega))] at hq
        rw [Nat.mod_eq_of_lt h3, List.mem_singleton.mp hq]
        exact List.mem_cons_self ..
      · have e : 3 + s % 3 = s := by omega
        apply List.mem_cons_of_mem
        rw [e]
        by_cases hf : x = f
        · rw [if_pos ⟨hf, by omega⟩] at hq
          rw [if_pos hf]; exact hq
        · rw [if_neg (fun h => hf h.1)] at hq
          rw [if_neg hf]; exact hq
    · rw [if_neg hkn] at hq; cases hq
def ruR (l : Option Nat) (f s : Nat) : Nat := if lpF l f = true then (if s = 4 then 0 else 1) else (if s < 3 then 0 else 1)
theorem thS_le (z : Bool) : thS z = 0 ∨ thS z = 3 := by cases z; exact Or.inl rfl; exact Or.inr rfl
theorem ru_af {f t : Nat} {l r : Option Nat} {u : Bool} (hf : f < 8) (ht : t < 9) (hround : ¬ (t = 8 ∧ lpF l f = true ∧ (r = none ∨ r = some f))) : DOK 6 (ruD f t l r u) ∧ Acy upr (ruD f t l r u) ∧ Acy lwr (ruD f t l r u) := by
  refine AF.all (n := 6) (ru := fun _ => 0) (rl := ruR l f) (by omega) ?_
  intro q hq
  obtain ⟨k, hk, hq⟩ := fmN_mem.mp hq
  obtain ⟨x, hx, hq⟩ := fmN_mem.mp hq
  unfold ckC at hq
  have hc : ∀ s, s < 6 → AF 6 (fun _ => 0) (ruR l f) (cpy l s x) := by
    intro s hs
    have := thS_le (lpF l x)
    exact ⟨s, x, x, thS (lpF l x), 0, rfl, hs, by omega, by omega, by omega, by omega, fun h => by omega, fun h => by omega⟩
  by_cases hkn : kn r x k = true
  · rw [if_pos hkn] at hq
    rcases List.mem_cons.mp hq with rfl | hq
    · exact hc k (by omega)
    · by_cases hxf : x = f
      · rw [if_pos hxf] at hq
        rw [hxf] at hkn
        have hT := thS_le (lpF l f)
        have hff : ∀ d, thS (lpF l f) + d < 6 → AF 6 (fun _ => 0) (ruR l f) (pkA (3 + k) f f (thS (lpF l f) + d), 0) := by
          intro d hd
          exact ⟨3 + k, f, f, thS (lpF l f) + d, 0, rfl, by omega, by omega, by omega, by omega, by omega, fun h => by omega, fun h => by omega⟩
        have hft : ∀ d, d < 2 → (t = 8 → lpF l f = true → d = 1 ∧ k ≠ 1) → AF 6 (fun _ => 0) (ruR l f) (pkA (3 + k) f t (thS (lpF l f) + d), 0) := by
          intro d hd h8
          refine ⟨3 + k, f, t, thS (lpF l f) + d, 0, rfl, by omega, by omega, by omega, by omega, by omega, fun h => by omega, fun h => ?_⟩
          unfold ruR thS
          by_cases hl : lpF l f = true
          · obtain ⟨e1, e2⟩ := h8 h hl
            rw [if_pos hl, if_pos hl, if_pos hl, e1, if_pos (by omega), if_neg (by omega)]
            omega
          · rw [if_neg hl, if_neg hl, if_neg hl, if_pos (by omega), if_neg (by omega)]
            omega
        unfold rwC at hq
        rcases List.mem_append.mp hq with hq | hq
        · by_cases hr : r = none
          · rw [if_pos hr] at hq
            rw [List.mem_singleton.mp hq]
            exact hft 0 (by omega) (fun h8 hl => absurd ⟨h8, hl, Or.inl hr⟩ hround)
          · rw [if_neg hr] at hq
            rcases List.mem_cons.mp hq with rfl | hq
            · refine hft 1 (by omega) (fun h8 hl => ⟨rfl, fun hk1 => ?_⟩)
              rw [hk1] at hkn
              unfold kn at hkn
              rw [if_pos rfl, decide_eq_true_eq] at hkn
              exact hround ⟨h8, hl, Or.inr hkn⟩
            · rw [List.mem_singleton.mp hq]
              exact hff 2 (by omega)
        · by_cases hu : u = true
          · rw [if_pos hu] at hq
            rw [List.mem_singleton.mp hq]
            exact hff 0 (by omega)
          · rw [if_neg hu] at hq; cases hq
      · rw [if_neg hxf] at hq
        rw [List.mem_singleton.mp hq]
        exact hc (3 + k) (by omega)
  · rw [if_neg hkn] at hq; cases hq
theorem ruS_t (z : Bool) (k : Nat) : P_X7_ruleState (bI z) (nI k) = nI (thS z + k) := by
  unfold P_X7_ruleState
  cases z
  · simp (disch := omega) only [zi_t, zi_f, bnd_t, zg_in, zx, nI_ltI, nI_leI, nI_eq, nI_add, pk_mul, pk_sub, mup_s, mup_c, mup_j, mrw_c, if_pos, if_neg, zm_1, zm_2, zm_3, zm_4, zm_5, zm_6, zm_7, zm_8, zm_9, zf_0, zf_1, zf_2, zf_3, zf_4, zf_5, zf_6, zf_7, zf_8, zf_9, zf_10, zf_14, zf_15, zf_16, zf_18, zf_19, zf_20, zf_24, zf_30, zf_31, zf_32, zf_33, zf_99, zf_100, zf_160, zf_200, zf_287, zf_288, zf_300, zf_1000, zf_1023, zf_1024, zf_1600, zf_3840, zf_25600, zf_36000, zf_1000000, zf_1000000000, zf_2000000000, zf_11560, za_1, za_2, za_4, za_5, za_6, za_7, za_8, za_9, za_10, za_11, za_12, za_14, za_15, za_22, za_23, za_25, za_26, za_27, za_28, za_29, za_30, za_31, za_32, za_33, za_34, za_35, za_41, za_42, za_43, za_44, za_45, za_46, za_47, za_48, za_49, za_61, za_62, za_63, za_64, za_65, za_70, bI_f]; rfl
  · simp (disch := omega) only [zi_t, zi_f, bnd_t, zg_in, zx, nI_ltI, nI_leI, nI_eq, nI_add, pk_mul, pk_sub, mup_s, mup_c, mup_j, mrw_c, if_pos, if_neg, zm_1, zm_2, zm_3, zm_4, zm_5, zm_6, zm_7, zm_8, zm_9, zf_0, zf_1, zf_2, zf_3, zf_4, zf_5, zf_6, zf_7, zf_8, zf_9, zf_10, zf_14, zf_15, zf_16, zf_18, zf_19, zf_20, zf_24, zf_30, zf_31, zf_32, zf_33, zf_99, zf_100, zf_160, zf_200, zf_287, zf_288, zf_300, zf_1000, zf_1023, zf_1024, zf_1600, zf_3840, zf_25600, zf_36000, zf_1000000, zf_1000000000, zf_2000000000, zf_11560, za_1, za_2, za_4, za_5, za_6, za_7, za_8, za_9, za_10, za_11, za_12, za_14, za_15, za_22, za_23, za_25, za_26, za_27, za_28, za_29, za_30, za_31, za_32, za_33, za_34, za_35, za_41, za_42, za_43, za_44, za_45, za_46, za_47, za_48, za_49, za_61, za_62, za_63, za_64, za_65, za_70, bI_t]; rfl
theorem ask_t {r : Option Nat} {x k : Nat} (hr : anOK r) (hx : x < 8) (hk : k < 3) : P_X7_isAsKnown (nI x) (nI k) (an r) = bI (kn r x k) := by
  unfold P_X7_isAsKnown kn
  have ea := an_eq (x := x) hr (by omega)
  by_cases c : r = some x
  · have e2 : (nI x = an r) = True := by rw [ea]; exact eq_true c
    rw [decide_eq_true c]
    by_cases k1 : k = 1
    · simp (disch := omega) only [zi_t, zi_f, bnd_t, zg_in, zx, nI_ltI, nI_leI, nI_eq, nI_add, pk_mul, pk_sub, mup_s, mup_c, mup_j, mrw_c, if_pos, if_neg, zm_1, zm_2, zm_3, zm_4, zm_5, zm_6, zm_7, zm_8, zm_9, zf_0, zf_1, zf_2, zf_3, zf_4, zf_5, zf_6, zf_7, zf_8, zf_9, zf_10, zf_14, zf_15, zf_16, zf_18, zf_19, zf_20, zf_24, zf_30, zf_31, zf_32, zf_33, zf_99, zf_100, zf_160, zf_200, zf_287, zf_288, zf_300, zf_1000, zf_1023, zf_1024, zf_1600, zf_3840, zf_25600, zf_36000, zf_1000000, zf_1000000000, zf_2000000000, zf_11560, za_1, za_2, za_4, za_5, za_6, za_7, za_8, za_9, za_10, za_11, za_12, za_14, za_15, za_22, za_23, za_25, za_26, za_27, za_28, za_29, za_30, za_31, za_32, za_33, za_34, za_35, za_41, za_42, za_43, za_44, za_45, za_46, za_47, za_48, za_49, za_61, za_62, za_63, za_64, za_65, za_70, k1, e2]
      rfl
    · by_cases k0 : k = 0
      · simp (disch := omega) only [zi_t, zi_f, bnd_t, zg_in, zx, nI_ltI, nI_leI, nI_eq, nI_add, pk_mul, pk_sub, mup_s, mup_c, mup_j, mrw_c, if_pos, if_neg, zm_1, zm_2, zm_3, zm_4, zm_5, zm_6, zm_7, zm_8, zm_9, zf_0, zf_1, zf_2, zf_3, zf_4, zf_5, zf_6, zf_7, zf_8, zf_9, zf_10, zf_14, zf_15, zf_16, zf_18, zf_19, zf_20, zf_24, zf_30, zf_31, zf_32, zf_33, zf_99, zf_100, zf_160, zf_200, zf_287, zf_288, zf_300, zf_1000, zf_1023, zf_1024, zf_1600, zf_3840, zf_25600, zf_36000, zf_1000000, zf_1000000000, zf_2000000000, zf_11560, za_1, za_2, za_4, za_5, za_6, za_7, za_8, za_9, za_10, za_11, za_12, za_14, za_15, za_22, za_23, za_25, za_26, za_27, za_28, za_29, za_30, za_31, za_32, za_33, za_34, za_35, za_41, za_42, za_43, za_44, za_45, za_46, za_47, za_48, za_49, za_61, za_62, za_63, za_64, za_65, za_70, k0]
        rfl
      · simp (disch := omega) only [zi_t, zi_f, bnd_t, zg_in, zx, nI_ltI, nI_leI, nI_eq, nI_add, pk_mul, pk_sub, mup_s, mup_c, mup_j, mrw_c, if_pos, if_neg, zm_1, zm_2, zm_3, zm_4, zm_5, zm_6, zm_7, zm_8, zm_9, zf_0, zf_1, zf_2, zf_3, zf_4, zf_5, zf_6, zf_7, zf_8, zf_9, zf_10, zf_14, zf_15, zf_16, zf_18, zf_19, zf_20, zf_24, zf_30, zf_31, zf_32, zf_33, zf_99, zf_100, zf_160, zf_200, zf_287, zf_288, zf_300, zf_1000, zf_1023, zf_1024, zf_1600, zf_3840, zf_25600, zf_36000, zf_1000000, zf_1000000000, zf_2000000000, zf_11560, za_1, za_2, za_4, za_5, za_6, za_7, za_8, za_9, za_10, za_11, za_12, za_14, za_15, za_22, za_23, za_25, za_26, za_27, za_28, za_29, za_30, za_31, za_32, za_33, za_34, za_35, za_41, za_42, za_43, za_44, za_45, za_46, za_47, za_48, za_49, za_61, za_62, za_63, za_64, za_65, za_70, e2]
        rfl
  · have e2 : (nI x = an r) = False := by rw [ea]; exact eq_false c
    rw [decide_eq_false c]
    by_cases k1 : k = 1
    · simp (disch := omega) only [zi_t, zi_f, bnd_t, zg_in, zx, nI_ltI, nI_leI, nI_eq, nI_add, pk_mul, pk_sub, mup_s, mup_c, mup_j, mrw_c, if_pos, if_neg, zm_1, zm_2, zm_3, zm_4, zm_5, zm_6, zm_7, zm_8, zm_9, zf_0, zf_1, zf_2, zf_3, zf_4, zf_5, zf_6, zf_7, zf_8, zf_9, zf_10, zf_14, zf_15, zf_16, zf_18, zf_19, zf_20, zf_24, zf_30, zf_31, zf_32, zf_33, zf_99, zf_100, zf_160, zf_200, zf_287, zf_288, zf_300, zf_1000, zf_1023, zf_1024, zf_1600, zf_3840, zf_25600, zf_36000, zf_1000000, zf_1000000000, zf_2000000000, zf_11560, za_1, za_2, za_4, za_5, za_6, za_7, za_8, za_9, za_10, za_11, za_12, za_14, za_15, za_22, za_23, za_25, za_26, za_27, za_28, za_29, za_30, za_31, za_32, za_33, za_34, za_35, za_41, za_42, za_43, za_44, za_45, za_46, za_47, za_48, za_49, za_61, za_62, za_63, za_64, za_65, za_70, k1, e2]
      rfl
    · by_cases k0 : k = 0
      · simp (disch := omega) only [zi_t, zi_f, bnd_t, zg_in, zx, nI_ltI, nI_leI, nI_eq, nI_add, pk_mul, pk_sub, mup_s, mup_c, mup_j, mrw_c, if_pos, if_neg, zm_1, zm_2, zm_3, zm_4, zm_5, zm_6, zm_7, zm_8, zm_9, zf_0, zf_1, zf_2, zf_3, zf_4, zf_5, zf_6, zf_7, zf_8, zf_9, zf_10, zf_14, zf_15, zf_16, zf_18, zf_19, zf_20, zf_24, zf_30, zf_31, zf_32, zf_33, zf_99, zf_100, zf_160, zf_200, zf_287, zf_288, zf_300, zf_1000, zf_1023, zf_1024, zf_1600, zf_3840, zf_25600, zf_36000, zf_1000000, zf_1000000000, zf_2000000000, zf_11560, za_1, za_2, za_4, za_5, za_6, za_7, za_8, za_9, za_10, za_11, za_12, za_14, za_15, za_22, za_23, za_25, za_26, za_27, za_28, za_29, za_30, za_31, za_32, za_33, za_34, za_35, za_41, za_42, za_43, za_44, za_45, za_46, za_47, za_48, za_49, za_61, za_62, za_63, za_64, za_65, za_70, k0]
        rfl
      · simp (disch := omega) only [zi_t, zi_f, bnd_t, zg_in, zx, nI_ltI, nI_leI, nI_eq, nI_add, pk_mul, pk_sub, mup_s, mup_c, mup_j, mrw_c, if_pos, if_neg, zm_1, zm_2, zm_3, zm_4, zm_5, zm_6, zm_7, zm_8, zm_9, zf_0, zf_1, zf_2, zf_3, zf_4, zf_5, zf_6, zf_7, zf_8, zf_9, zf_10, zf_14, zf_15, zf_16, zf_18, zf_19, zf_20, zf_24, zf_30, zf_31, zf_32, zf_33, zf_99, zf_100, zf_160, zf_200, zf_287, zf_288, zf_300, zf_1000, zf_1023, zf_1024, zf_1600, zf_3840, zf_25600, zf_36000, zf_1000000, zf_1000000000, zf_2000000000, zf_11560, za_1, za_2, za_4, za_5, za_6, za_7, za_8, za_9, za_10, za_11, za_12, za_14, za_15, za_22, za_23, za_25, za_26, za_27, za_28, za_29, za_30, za_31, za_32, za_33, za_34, za_35, za_41, za_42, za_43, za_44, za_45, za_46, za_47, za_48, za_49, za_61, za_62, za_63, za_64, za_65, za_70, e2]
        rfl
theorem cl_copy {N st k x : Nat} {b z : Bool} {m : Mem} {E : Nat → Bool} {D : ArL} (h : DR m 6 st E D) (hD : D.length < 25600) (hk : k < 3) (hx : x < 8) : ∃ m', F_X7_addCopy N m (bI b) (nI k) (nI x) (bI z) = some m' ∧ DR m' 6 st E (D ++ [(pkA (thS b + k) x x (thS z), 0)]) ∧ Off 3 7 m m' := by
  have h1 := thS_le b
  have h2 := thS_le z
  obtain ⟨m', g1, g2, g3⟩ := dr_addArc (N := N) (s := thS b + k) (u := x) (l := x) (t := thS z) (c := 0) h (by omega) hD (by omega) (by omega) (by omega) (by omega)
  refine ⟨m', ?_, g2, g3⟩
  unfold F_X7_addCopy
  rw [show (0 : Int32) = nI 0 from rfl, ruS_t, ruS_t, Nat.add_zero, calv_t g1]
theorem cl_rewriting {N st s f t : Nat} {l r : Option Nat} {u : Bool} {m : Mem} {E : Nat → Bool} {D : ArL} (h : DR m 6 st E D) (hD : D.length < 25000) (hs : s < 6) (hf : f < 8) (ht : t < 9) (hr : anOK r) : ∃ m', F_X7_addRewriting N m (nI s) (nI f) (nI t) (an r) (bI (lpF l f)) (bI u) = some m' ∧ DR m' 6 st E (D ++ rwC f t l r u s) ∧ Off 3 7 m m' := by
  have hT := thS_le (lpF l f)
  have last : ∀ (m1 : Mem) (D1 : ArL), DR m1 6 st E D1 → D1.length < 25500 → Off 3 7 m m1 → ∃ m', B_X7_addRewriting_60 N m1 (nI s) (nI f) (bI (lpF l f)) (bI u) = some m' ∧ DR m' 6 st E (D1 ++ (if u = true then [(pkA s f f (thS (lpF l f)), 0)] else [])) ∧ Off 3 7 m m' := by
    intro m1 D1 d1 d2 d3
    unfold B_X7_addRewriting_60 B_X7_addRewriting_82
    cases u with
    | false =>
      refine ⟨m1, ?_, ?_, d3⟩
      · simp (disch := omega) only [zi_t, zi_f, bnd_t, zg_in, zx, nI_ltI, nI_leI, nI_eq, nI_add, pk_mul, pk_sub, mup_s, mup_c, mup_j, mrw_c, if_pos, if_neg, zm_1, zm_2, zm_3, zm_4, zm_5, zm_6, zm_7, zm_8, zm_9, zf_0, zf_1, zf_2, zf_3, zf_4, zf_5, zf_6, zf_7, zf_8, zf_9, zf_10, zf_14, zf_15, zf_16, zf_18, zf_19, zf_20, zf_24, zf_30, zf_31, zf_32, zf_33, zf_99, zf_100, zf_160, zf_200, zf_287, zf_288, zf_300, zf_1000, zf_1023, zf_1024, zf_1600, zf_3840, zf_25600, zf_36000, zf_1000000, zf_1000000000, zf_2000000000, zf_11560, za_1, za_2, za_4, za_5, za_6, za_7, za_8, za_9, za_10, za_11, za_12, za_14, za_15, za_22, za_23, za_25, za_26, za_27, za_28, za_29, za_30, za_31, za_32, za_33, za_34, za_35, za_41, za_42, za_43, za_44, za_45, za_46, za_47, za_48, za_49, za_61, za_62, za_63, za_64, za_65, za_70, bI_f]
      · rw [if_neg (by simp), List.append_nil]; exact d1
    | true =>
      obtain ⟨m2, g1, g2, g3⟩ := dr_addArc (N := N) (s := s) (u := f) (l := f) (t := thS (lpF l f)) (c := 0) d1 (by omega) (by omega) hs (by omega) (by omega) (by omega)
      refine ⟨m2, ?_, ?_, d3.tr g3⟩
      · simp (disch := omega) only [zi_t, zi_f, bnd_t, zg_in, zx, nI_ltI, nI_leI, nI_eq, nI_add, pk_mul, pk_sub, mup_s, mup_c, mup_j, mrw_c, if_pos, if_neg, zm_1, zm_2, zm_3, zm_4, zm_5, zm_6, zm_7, zm_8, zm_9, zf_0, zf_1, zf_2, zf_3, zf_4, zf_5, zf_6, zf_7, zf_8, zf_9, zf_10, zf_14, zf_15, zf_16, zf_18, zf_19, zf_20, zf_24, zf_30, zf_31, zf_32, zf_33, zf_99, zf_100, zf_160, zf_200, zf_287, zf_288, zf_300, zf_1000, zf_1023, zf_1024, zf_1600, zf_3840, zf_25600, zf_36000, zf_1000000, zf_1000000000, zf_2000000000, zf_11560, za_1, za_2, za_4, za_5, za_6, za_7, za_8, za_9, za_10, za_11, za_12, za_14, za_15, za_22, za_23, za_25, za_26, za_27, za_28, za_29, za_30, za_31, za_32, za_33, za_34, za_35, za_41, za_42, za_43, za_44, za_45, za_46, za_47, za_48, za_49, za_61, za_62, za_63, za_64, za_65, za_70, bI_t]
        rw [ruS_t, Nat.add_zero, calv_t g1]
      · rw [if_pos rfl]; exact g2
  unfold F_X7_addRewriting rwC
  by_cases hn : r = none
  · obtain ⟨m2, g1, g2, g3⟩ := dr_addArc (N := N) (s := s) (u := f) (l := t) (t := thS (lpF l f)) (c := 0) h (by omega) (by omega) hs (by omega) (by omega) (by omega)
    obtain ⟨m3, k1, k2, k3⟩ := last m2 _ g2 (by rw [List.length_append, List.length_singleton]; omega) g3
    refine ⟨m3, ?_, ?_, k3⟩
    · have e2 : (an r = nM) = True := by rw [an_n hr]; exact eq_true hn
      simp (disch := omega) only [zi_t, zi_f, bnd_t, zg_in, zx, nI_ltI, nI_leI, nI_eq, nI_add, pk_mul, pk_sub, mup_s, mup_c, mup_j, mrw_c, if_pos, if_neg, zm_1, zm_2, zm_3, zm_4, zm_5, zm_6, zm_7, zm_8, zm_9, zf_0, zf_1, zf_2, zf_3, zf_4, zf_5, zf_6, zf_7, zf_8, zf_9, zf_10, zf_14, zf_15, zf_16, zf_18, zf_19, zf_20, zf_24, zf_30, zf_31, zf_32, zf_33, zf_99, zf_100, zf_160, zf_200, zf_287, zf_288, zf_300, zf_1000, zf_1023, zf_1024, zf_1600, zf_3840, zf_25600, zf_36000, zf_1000000, zf_1000000000, zf_2000000000, zf_11560, za_1, za_2, za_4, za_5, za_6, za_7, za_8, za_9, za_10, za_11, za_12, za_14, za_15, za_22, za_23, za_25, za_26, za_27, za_28, za_29, za_30, za_31, za_32, za_33, za_34, za_35, za_41, za_42, za_43, za_44, za_45, za_46, za_47, za_48, za_49, za_61, za_62, za_63, za_64, za_65, za_70, e2]
      rw [ruS_t, Nat.add_zero, calv_t g1, k1]
    · rw [if_pos hn, ← List.append_assoc]; exact k2
  · obtain ⟨m2, g1, g2, g3⟩ := dr_addArc (N := N) (s := s) (u := f) (l := t) (t := thS (lpF l f) + 1) (c := 0) h (by omega) (by omega) hs (by omega) (by omega) (by omega)
    obtain ⟨m4, p1, p2, p3⟩ := dr_addArc (N := N) (s := s) (u := f) (l := f) (t := thS (lpF l f) + 2) (c := 0) g2 (by omega) (by rw [List.length_append, List.length_singleton]; omega) hs (by omega) (by omega) (by omega)
    obtain ⟨m3, k1, k2, k3⟩ := last m4 _ p2 (by rw [List.length_append, List.length_append, List.length_singleton, List.length_singleton]; omega) (g3.tr p3)
    refine ⟨m3, ?_, ?_, k3⟩
    · have e2 : (an r = nM) = False := by rw [an_n hr]; exact eq_false hn
      simp (disch := omega) only [zi_t, zi_f, bnd_t, zg_in, zx, nI_ltI, nI_leI, nI_eq, nI_add, pk_mul, pk_sub, mup_s, mup_c, mup_j, mrw_c, if_pos, if_neg, zm_1, zm_2, zm_3, zm_4, zm_5, zm_6, zm_7, zm_8, zm_9, zf_0, zf_1, zf_2, zf_3, zf_4, zf_5, zf_6, zf_7, zf_8, zf_9, zf_10, zf_14, zf_15, zf_16, zf_18, zf_19, zf_20, zf_24, zf_30, zf_31, zf_32, zf_33, zf_99, zf_100, zf_160, zf_200, zf_287, zf_288, zf_300, zf_1000, zf_1023, zf_1024, zf_1600, zf_3840, zf_25600, zf_36000, zf_1000000, zf_1000000000, zf_2000000000, zf_11560, za_1, za_2, za_4, za_5, za_6, za_7, za_8, za_9, za_10, za_11, za_12, za_14, za_15, za_22, za_23, za_25, za_26, za_27, za_28, za_29, za_30, za_31, za_32, za_33, za_34, za_35, za_41, za_42, za_43, za_44, za_45, za_46, za_47, za_48, za_49, za_61, za_62, za_63, za_64, za_65, za_70, e2]
      rw [ruS_t, ruS_t, calv_t g1, calv_t p1, k1]
    · rw [if_neg hn]
      rw [List.append_assoc, List.append_assoc] at k2
      exact k2
