def SdR (way : Nat) (L : ArL) (w : List Nat) (δ : Nat → Nat) (ch : Bool) : List Nat → Nat → Prop
  | [] => fun b => b = 0
  | x :: ρ => NxK way L w δ ch x (CloK (Sy way L w δ ch 8) (SdR way L w δ ch ρ))
abbrev CpR (way : Nat) (L : ArL) (w : List Nat) (δ : Nat → Nat) (ch : Bool) (ρ : List Nat) : Nat → Prop := CloK (Sy way L w δ ch 8) (SdR way L w δ ch ρ)
theorem sdr_kn {way n : Nat} {L : ArL} {w : List Nat} {δ : Nat → Nat} {ch : Bool} (hok : DOK n L) (hn : n ≤ 32) (h1 : 1 ≤ n) : ∀ ρ, KN n w (SdR way L w δ ch ρ)
  | [] => fun a ha => by
    have ha : a = 0 := ha
    subst ha
    exact ⟨by omega, by omega⟩
  | x :: ρ => fun b hb => by
    obtain ⟨a, ha, hs⟩ := hb
    exact sy_kn hok hn hs (clo_kn (way := way) (δ := δ) (ch := ch) hok hn (sdr_kn hok hn h1 ρ) a ha).1
def LL (vi : List Nat → Bool) (m : Mem) (lv : Nat) (ρ : List Nat) (x : Nat) : Prop := ∀ y, y < 8 → (tb (m 48 lv) y = true ↔ x ≤ y ∧ vi (y :: ρ) = true)
def FI (way : Nat) (L : ArL) (w : List Nat) (δ : Nat → Nat) (ch : Bool) (vi : List Nat → Bool) (m : Mem) : List Nat → Nat → Prop
  | [] => fun x => RW' m w 0 (CpR way L w δ ch []) ∧ LL vi m 0 [] x
  | y :: ρ => fun x => RW' m w (ρ.length + 1) (CpR way L w δ ch (y :: ρ)) ∧ LL vi m (ρ.length + 1) (y :: ρ) x ∧ m 49 ρ.length = nI y ∧ FI way L w δ ch vi m ρ (y + 1)
theorem RW'.cg {m m' : Mem} {w : List Nat} {lv : Nat} {K : Nat → Prop} (h : RW' m w lv K) (hw : w.length ≤ 8) (hf : ∀ j, j < 9 * (lv + 1) → m' 47 j = m 47 j) : RW' m' w lv K := fun p s hp hs => by rw [hf _ (by omega)]; exact h p s hp hs
theorem FI.cg {way : Nat} {L : ArL} {w : List Nat} {δ : Nat → Nat} {ch : Bool} {vi : List Nat → Bool} {m m' : Mem} (hw : w.length ≤ 8) : ∀ {ρ : List Nat} {x : Nat}, FI way L w δ ch vi m ρ x → (∀ j, j < 9 * (ρ.length + 1) → m' 47 j = m 47 j) → (∀ j, j < ρ.length + 1 → m' 48 j = m 48 j) → (∀ j, j < ρ.length → m' 49 j = m 49 j) → FI way L w δ ch vi m' ρ x
  | [], x, h, h1, h2, h3 => ⟨h.1.cg hw h1, fun y hy => by rw [h2 0 (by show 0 < 0 + 1; omega)]; exact h.2 y hy⟩
  | y :: ρ, x, h, h1, h2, h3 => by
    have e : (y :: ρ).length = ρ.length + 1 := rfl
    rw [e] at h1 h2 h3
    obtain ⟨a, b, c, d⟩ := h
    exact ⟨a.cg hw h1, fun z hz => by rw [h2 _ (by omega)]; exact b z hz, by rw [h3 _ (by omega)]; exact c, FI.cg hw d (fun j hj => h1 j (by omega)) (fun j hj => h2 j (by omega)) (fun j hj => h3 j (by omega))⟩
theorem FI.row {way : Nat} {L : ArL} {w : List Nat} {δ : Nat → Nat} {ch : Bool} {vi : List Nat → Bool} {m : Mem} {ρ : List Nat} {x : Nat} (h : FI way L w δ ch vi m ρ x) : RW' m w ρ.length (CpR way L w δ ch ρ) ∧ LL vi m ρ.length ρ x := by
  cases ρ with
  | nil => exact ⟨h.1, h.2⟩
  | cons y ρ => exact ⟨h.1, h.2.1⟩
theorem tb_xor (x y : Int32) (s : Nat) : tb (x ^^^ y) s = (tb x s ^^ tb y s) := by
  show (x ^^^ y).toBitVec.getLsbD s = _
  rw [Int32.toBitVec_xor, BitVec.getLsbD_xor]; rfl
theorem tb_nM : ∀ s, s < 32 → tb nM s = true := by decide +kernel
theorem tb_clr {x : Int32} {y s : Nat} (hy : y < 32) (hs : s < 32) : tb (x &&& (q_shl (nI 1) (nI y) ^^^ nM)) s = (tb x s && decide (s ≠ y)) := by
  rw [tb_and, tb_xor, tb_shl y hy s hs, tb_nM s hs]
  by_cases e : s = y
  · rw [decide_eq_true e, decide_eq_false (fun h => h e)]; rfl
  · rw [decide_eq_false e, decide_eq_true e]; rfl
theorem cl_lowest {N : Nat} {m : Mem} {r : Int32} (hN : 40000 < N) : (∃ y, y < 8 ∧ tb r y = true ∧ (∀ z, z < y → tb r z = false) ∧ F_X4_lowestIn N m r = some (nI y, m)) ∨ ((∀ z, z < 8 → tb r z = false) ∧ F_X4_lowestIn N m r = some (nM, m)) := by
  unfold F_X4_lowestIn
  refine loopF (σ := Unit) (fun g _ y => L_X4_lowestIn_2 N g m r (nI y)) 8 (fun y _ => ∀ z, z < y → tb r z = false) (fun o => (∃ y, y < 8 ∧ tb r y = true ∧ (∀ z, z < y → tb r z = false) ∧ o = some (nI y, m)) ∨ ((∀ z, z < 8 → tb r z = false) ∧ o = some (nM, m))) ?_ ?_ N 0 () (Nat.zero_le _) (fun z hz => absurd hz (Nat.not_lt_zero _)) (by omega)
  · rintro g y _ hy hI
    have hh := holds_t (x := r) (s := y) (by omega)
    cases ht : tb r y with
    | true =>
      rw [ht] at hh
      right
      refine Or.inl ⟨y, hy, ht, hI, ?_⟩
      show S_X4_lowestIn_2 N (L_X4_lowestIn_2 N g) m r (nI y) = _
      unfold S_X4_lowestIn_2
      simp (disch := omega) only [zi_t, zi_f, bnd_t, zg_in, zx, nI_ltI, nI_leI, nI_eq, nI_add, pk_mul, pk_sub, mup_s, mup_c, mup_j, mrw_c, if_pos, if_neg, zm_1, zm_2, zm_3, zm_4, zm_5, zm_6, zm_7, zm_8, zm_9, zf_0, zf_1, zf_2, zf_3, zf_4, zf_5, zf_6, zf_7, zf_8, zf_9, zf_10, zf_14, zf_15, zf_16, zf_18, zf_19, zf_20, zf_24, zf_30, zf_31, zf_32, zf_33, zf_99, zf_100, zf_160, zf_200, zf_287, zf_288, zf_300, zf_1000, zf_1023, zf_1024, zf_1600, zf_3840, zf_25600, zf_36000, zf_1000000, zf_1000000000, zf_2000000000, zf_11560, za_1, za_2, za_4, za_5, za_6, za_7, za_8, za_9, za_10, za_11, za_12, za_14, za_15, za_22, za_23, za_25, za_26, za_27, za_28, za_29, za_30, za_31, za_32, za_33, za_34, za_35, za_41, za_42, za_43, za_44, za_45, za_46, za_47, za_48, za_49, za_61, za_62, za_63, za_64, za_65, za_70, hh, bI_t]
    | false =>
      rw [ht] at hh
      left
      refine ⟨(), fun z hz => ?_, ?_⟩
      · by_cases e : z = y
        · rw [e]; exact ht
        · exact hI z (by omega)
      · show S_X4_lowestIn_2 N (L_X4_lowestIn_2 N g) m r (nI y) = _
        unfold S_X4_lowestIn_2
        simp (disch := omega) only [zi_t, zi_f, bnd_t, zg_in, zx, nI_ltI, nI_leI, nI_eq, nI_add, pk_mul, pk_sub, mup_s, mup_c, mup_j, mrw_c, if_pos, if_neg, zm_1, zm_2, zm_3, zm_4, zm_5, zm_6, zm_7, zm_8, zm_9, zf_0, zf_1, zf_2, zf_3, zf_4, zf_5, zf_6, zf_7, zf_8, zf_9, zf_10, zf_14, zf_15, zf_16, zf_18, zf_19, zf_20, zf_24, zf_30, zf_31, zf_32, zf_33, zf_99, zf_100, zf_160, zf_200, zf_287, zf_288, zf_300, zf_1000, zf_1023, zf_1024, zf_1600, zf_3840, zf_25600, zf_36000, zf_1000000, zf_1000000000, zf_2000000000, zf_11560, za_1, za_2, za_4, za_5, za_6, za_7, za_8, za_9, za_10, za_11, za_12, za_14, za_15, za_22, za_23, za_25, za_26, za_27, za_28, za_29, za_30, za_31, za_32, za_33, za_34, za_35, za_41, za_42, za_43, za_44, za_45, za_46, za_47, za_48, za_49, za_61, za_62, za_63, za_64, za_65, za_70, hh, bI_f]
  · rintro g _ hI
    refine Or.inr ⟨hI, ?_⟩
    show S_X4_lowestIn_2 N (L_X4_lowestIn_2 N g) m r (nI 8) = _
    unfold S_X4_lowestIn_2
    simp (disch := omega) only [zi_t, zi_f, bnd_t, zg_in, zx, nI_ltI, nI_leI, nI_eq, nI_add, pk_mul, pk_sub, mup_s, mup_c, mup_j, mrw_c, if_pos, if_neg, zm_1, zm_2, zm_3, zm_4, zm_5, zm_6, zm_7, zm_8, zm_9, zf_0, zf_1, zf_2, zf_3, zf_4, zf_5, zf_6, zf_7, zf_8, zf_9, zf_10, zf_14, zf_15, zf_16, zf_18, zf_19, zf_20, zf_24, zf_30, zf_31, zf_32, zf_33, zf_99, zf_100, zf_160, zf_200, zf_287, zf_288, zf_300, zf_1000, zf_1023, zf_1024, zf_1600, zf_3840, zf_25600, zf_36000, zf_1000000, zf_1000000000, zf_2000000000, zf_11560, za_1, za_2, za_4, za_5, za_6, za_7, za_8, za_9, za_10, za_11, za_12, za_14, za_15, za_22, za_23, za_25, za_26, za_27, za_28, za_29, za_30, za_31, za_32, za_33, za_34, za_35, za_41, za_42, za_43, za_44, za_45, za_46, za_47, za_48, za_49, za_61, za_62, za_63, za_64, za_65, za_70]
