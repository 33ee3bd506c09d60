/-! answers on both sides -/
theorem walk_ex {vi an : List Nat → Bool} {S : Nat} (hv : WV vi an) (h0 : vi [] = true) (hS : S ≤ 20) : ∃ F res, F ≤ 110000 ∧ walk vi an S F [] 0 (if an [] = true then 1 else 0) = some res := by
  obtain ⟨res, h⟩ := walk_ends (S := S) hv (wM S (if an [] = true then 1 else 0) 0 0 (!an [])) [] 0 (if an [] = true then 1 else 0) (!an []) (wi_0 hv h0) (Nat.le_refl _)
  refine ⟨_, res, ?_, h⟩
  unfold wM wP
  have : 288 * (S - (if an [] = true then 1 else 0)) ≤ 288 * 20 := Nat.mul_le_mul_left _ (by omega)
  omega
theorem cl_find0 {N a n way S : Nat} {f : Nat → Bool} {L : ArL} {w : List Nat} {δ : Nat → Nat} {ch : Bool} {m : Mem} (h : SL m a way n f L w δ) (h1 : 1 ≤ n) (h0 : ¬ δ 0 < 1000000000) : ∃ m', F_X4_find N m (nI S) (bI ch) = some (nI 0, m') ∧ Off 40 50 m m' := by
  obtain ⟨e0, l0⟩ := h.at0 h1
  refine ⟨mup (mup m 40 4 (bI ch)) 40 13 (nI 0), ?_, (Off.rf.up (by omega) (by omega)).up (by omega) (by omega)⟩
  unfold F_X4_find
  rw [gd_t (bI_isb' ch)]
  simp (disch := omega) only [zi_t, zi_f, bnd_t, zg_in, zx, nI_ltI, nI_leI, nI_eq, nI_add, pk_mul, pk_sub, mup_s, mup_c, mup_j, mrw_c, if_pos, if_neg, zm_1, zm_2, zm_3, zm_4, zm_5, zm_6, zm_7, zm_8, zm_9, zf_0, zf_1, zf_2, zf_3, zf_4, zf_5, zf_6, zf_7, zf_8, zf_9, zf_10, zf_14, zf_15, zf_16, zf_18, zf_19, zf_20, zf_24, zf_30, zf_31, zf_32, zf_33, zf_99, zf_100, zf_160, zf_200, zf_287, zf_288, zf_300, zf_1000, zf_1023, zf_1024, zf_1600, zf_3840, zf_25600, zf_36000, zf_1000000, zf_1000000000, zf_2000000000, zf_11560, za_1, za_2, za_4, za_5, za_6, za_7, za_8, za_9, za_10, za_11, za_12, za_14, za_15, za_22, za_23, za_25, za_26, za_27, za_28, za_29, za_30, za_31, za_32, za_33, za_34, za_35, za_41, za_42, za_43, za_44, za_45, za_46, za_47, za_48, za_49, za_61, za_62, za_63, za_64, za_65, za_71, za_72, za_73, za_74, za_75, za_76, za_77, za_78, za_79, za_80, za_81, za_82, za_83, za_84, za_85, za_86, za_87, za_88, za_89, za_90, za_91, za_92, za_93, za_94, za_95, za_96, za_97, za_98, za_99, za_100, za_101, za_102, za_103, za_104, za_105, za_106, za_107, za_108, e0]
theorem mo_answersTo {N i n last F : Nat} {u : Bool} {f : Nat → Bool} {L : ArL} {w : List Nat} {δ : Nat → Nat} {vi an : List Nat → Bool} {m : Mem} {res : Nat × List Nat} (hN : 40000 < N) (hG : GD i n L w) (hSt : MSt m i n f L w) (hδ : IsD (eU u L w) (En n f w) δ) (h0 : δ 0 < 1000000000) (hv : WV vi an) (hvi : ∀ ρ, vi ρ = true ↔ ∃ b, SdR (wU u) L w δ false ρ b) (han : ∀ ρ, an ρ = true ↔ AnK n f w (CpR (wU u) L w δ false ρ)) (hlast : last < 20) (hw : walk vi an (last + 1) F [] 0 (if an [] = true then 1 else 0) = some res) (hF : F + 2 ≤ N) :
    ∃ m', F_X8_answersTo N m (nI i) (bI u) (nI last) = some (nI res.1, m') ∧ Fx 99 105 [42] m m' ∧ (last + 1 ≤ res.1 → m' 70 42 = nI res.2.length ∧ PM m' res.2) := by
  have hG' := hG
  obtain ⟨hi, hok, hl, hn, hwl, hwx, h1n⟩ := hG'
  obtain ⟨m2, g1, g2, g3⟩ := mo_rests (N := N) (u := u) hN hi hSt hok hl hn hwl hwx hδ
  have e0 := g3 0 (by omega)
  have hM2 : MLk m2 i n f L w δ := ⟨hSt.cg (fun k a b => g2.1 k (by omega) (by omega)) (g2.2 2 (by simp)), g3⟩
  rw [show mF δ 0 = δ 0 from if_pos h0] at e0
  obtain ⟨m5, c1, c2, c3⟩ := mo_empties (N := N) (d := 0) (m := m2) hN (by omega)
  obtain ⟨m7, hm7⟩ : ∃ m7, m7 = mup m5 102 0 (nI 1) := ⟨_, rfl⟩
  have o7 : ORw 0 m5 m7 := by rw [hm7]; exact ORw.rf.up (a := 0) (by omega)
  have e7 : ∀ a, a < 288 → m7 102 (288 * 0 + a) = if a = 0 then nI 1 else nI 0 := by
    intro a ha
    rw [hm7, mup_if]
    by_cases e : a = 0
    · rw [if_pos e, if_pos (by omega)]
    · rw [if_neg e, if_neg (by omega), c3 a ha]
  have hb7 : Bo m7 0 := by
    intro a ha
    rw [e7 a ha]
    split
    · exact Or.inr rfl
    · exact Or.inl rfl
  have hin7 : ∀ a, (a < 288 ∧ At m7 0 a) ↔ SdR (wU u) L w δ false [] a := by
    intro a
    constructor
    · rintro ⟨ha, hA⟩
      show a = 0
      have hA : m7 102 (288 * 0 + a) = nI 1 := hA
      rw [e7 a ha] at hA
      split at hA
      · assumption
      · exact absurd hA (by decide)
    · intro h
      have h : a = 0 := h
      rw [h]
      exact ⟨by omega, by unfold At; rw [e7 0 (by omega), if_pos rfl]⟩
  have hM7 := (hM2.ow c2).ow o7
  obtain ⟨m9, k1, k2, k3, k4⟩ := mo_closes (N := N) (u := u) (d := 0) hN hG hM7 (by omega) hb7
  have hM9 := hM7.ow k2
  have hra9 : RwA m9 0 (CpR (wU u) L w δ false []) := ⟨k3, fun a ha => (k4 a ha).trans (clo_cg hin7 a)⟩
  obtain ⟨m11, hm11⟩ : ∃ m11, m11 = mup m9 103 0 nM := ⟨_, rfl⟩
  have o11 : Fx 102 105 [42] m9 m11 := by rw [hm11]; exact Fx.rf.up (by omega) (by omega) (by omega)
  have hM11 : MLk m11 i n f L w δ := hM9.cg (fun c a b => by rw [hm11, mup_r (by omega)]) (by rw [hm11, mup_c (by omega)])
  have hra11 : RwA m11 0 (CpR (wU u) L w δ false []) := hra9.cg (fun j _ => by rw [hm11, mup_c (by omega)])
  have hF11 : FM (wU u) L w δ m11 [] 0 := ⟨hra11, by rw [hm11, mup_s]; rfl⟩
  obtain ⟨b, q1, q2⟩ := mo_isAnswer (N := N) (d := 0) hN hG hM11 (by omega) hra11.1
  have hKN := clo_kn (way := wU u) (δ := δ) (ch := false) hok hn (sdr_kn (way := wU u) (δ := δ) (ch := false) (w := w) hok hn h1n [])
  have hin := hra11.inr hKN hn hwl
  have hban : b = an [] := by
    rw [Bool.eq_iff_iff, q2, han []]
    constructor
    · rintro ⟨t, t1, t2, t3⟩; exact ⟨t, t1, t2, (hin _).mp t3⟩
    · rintro ⟨t, t1, t2, t3⟩; exact ⟨t, t1, t2, (hin _).mpr t3⟩
  have hv0 : vi [] = true := (hvi []).mpr ⟨0, rfl⟩
  obtain ⟨m', r1, r2, r3⟩ := mo_ansLoop (N := N) (last := last) hN hG hv hvi han rfl hlast F [] 0 (if an [] = true then 1 else 0) N m11 res hw hM11 hF11 hv0 (fun z hz => (by cases hz)) (by omega) (by split <;> omega) hF
  have oo : Fx 99 105 [42] m m11 := by
    refine ⟨fun c x1 x2 => ?_, fun j hj => ?_⟩
    · rw [o11.1 c x1 (by omega), k2.1 c (by omega), o7.1 c (by omega), c2.1 c (by omega), g2.1 c x1 (by omega)]
    · rw [o11.2 j hj, k2.1 70 (by omega), o7.1 70 (by omega), c2.1 70 (by omega), g2.2 j (by simp)]
  refine ⟨m', ?_, oo.tr (r2.wd (by omega) (by omega) (fun j h => h)), r3⟩
  unfold F_X8_answersTo B_X8_answersTo_63
  rw [calv_t g1]
  simp (disch := omega) only [zi_t, zi_f, bnd_t, zg_in, zx, nI_ltI, nI_leI, nI_eq, nI_add, pk_mul, pk_sub, mup_s, mup_c, mup_j, mrw_c, if_pos, if_neg, zm_1, zm_2, zm_3, zm_4, zm_5, zm_6, zm_7, zm_8, zm_9, zf_0, zf_1, zf_2, zf_3, zf_4, zf_5, zf_6, zf_7, zf_8, zf_9, zf_10, zf_14, zf_15, zf_16, zf_18, zf_19, zf_20, zf_24, zf_30, zf_31, zf_32, zf_33, zf_99, zf_100, zf_160, zf_200, zf_287, zf_288, zf_300, zf_1000, zf_1023, zf_1024, zf_1600, zf_3840, zf_25600, zf_36000, zf_1000000, zf_1000000000, zf_2000000000, zf_11560, za_1, za_2, za_4, za_5, za_6, za_7, za_8, za_9, za_10, za_11, za_12, za_14, za_15, za_22, za_23, za_25, za_26, za_27, za_28, za_29, za_30, za_31, za_32, za_33, za_34, za_35, za_41, za_42, za_43, za_44, za_45, za_46, za_47, za_48, za_49, za_61, za_62, za_63, za_64, za_65, za_71, za_72, za_73, za_74, za_75, za_76, za_77, za_78, za_79, za_80, za_81, za_82, za_83, za_84, za_85, za_86, za_87, za_88, za_89, za_90, za_91, za_92, za_93, za_94, za_95, za_96, za_97, za_98, za_99, za_100, za_101, za_102, za_103, za_104, za_105, za_106, za_107, za_108, e0]
  rw [calv_t c1]
  try simp (disch := omega) only [zi_t, zi_f, bnd_t, zg_in, zx, nI_ltI, nI_leI, nI_eq, nI_add, pk_mul, pk_sub, mup_s, mup_c, mup_j, mrw_c, if_pos, if_neg, zm_1, zm_2, zm_3, zm_4, zm_5, zm_6, zm_7, zm_8, zm_9, zf_0, zf_1, zf_2, zf_3, zf_4, zf_5, zf_6, zf_7, zf_8, zf_9, zf_10, zf_14, zf_15, zf_16, zf_18, zf_19, zf_20, zf_24, zf_30, zf_31, zf_32, zf_33, zf_99, zf_100, zf_160, zf_200, zf_287, zf_288, zf_300, zf_1000, zf_1023, zf_1024, zf_1600, zf_3840, zf_25600, zf_36000, zf_1000000, zf_1000000000, zf_2000000000, zf_11560, za_1, za_2, za_4, za_5, za_6, za_7, za_8, za_9, za_10, za_11, za_12, za_14, za_15, za_22, za_23, za_25, za_26, za_27, za_28, za_29, za_30, za_31, za_32, za_33, za_34, za_35, za_41, za_42, za_43, za_44, za_45, za_46, za_47, za_48, za_49, za_61, za_62, za_63, za_64, za_65, za_71, za_72, za_73, za_74, za_75, za_76, za_77, za_78, za_79, za_80, za_81, za_82, za_83, za_84, za_85, za_86, za_87, za_88, za_89, za_90, za_91, za_92, za_93, za_94, za_95, za_96, za_97, za_98, za_99, za_100, za_101, za_102, za_103, za_104, za_105, za_106, za_107, za_108]
  rw [← hm7, calv_t k1]
  try simp (disch := omega) only [zi_t, zi_f, bnd_t, zg_in, zx, nI_ltI, nI_leI, nI_eq, nI_add, pk_mul, pk_sub, mup_s, mup_c, mup_j, mrw_c, if_pos, if_neg, zm_1, zm_2, zm_3, zm_4, zm_5, zm_6, zm_7, zm_8, zm_9, zf_0, zf_1, zf_2, zf_3, zf_4, zf_5, zf_6, zf_7, zf_8, zf_9, zf_10, zf_14, zf_15, zf_16, zf_18, zf_19, zf_20, zf_24, zf_30, zf_31, zf_32, zf_33, zf_99, zf_100, zf_160, zf_200, zf_287, zf_288, zf_300, zf_1000, zf_1023, zf_1024, zf_1600, zf_3840, zf_25600, zf_36000, zf_1000000, zf_1000000000, zf_2000000000, zf_11560, za_1, za_2, za_4, za_5, za_6, za_7, za_8, za_9, za_10, za_11, za_12, za_14, za_15, za_22, za_23, za_25, za_26, za_27, za_28, za_29, za_30, za_31, za_32, za_33, za_34, za_35, za_41, za_42, za_43, za_44, za_45, za_46, za_47, za_48, za_49, za_61, za_62, za_63, za_64, za_65, za_71, za_72, za_73, za_74, za_75, za_76, za_77, za_78, za_79, za_80, za_81, za_82, za_83, za_84, za_85, za_86, za_87, za_88, za_89, za_90, za_91, za_92, za_93, za_94, za_95, za_96, za_97, za_98, za_99, za_100, za_101, za_102, za_103, za_104, za_105, za_106, za_107, za_108]
  rw [← hm11, cal_t q1, ← r1, hban]
  cases an [] with
  | true => simp (disch := omega) only [zi_t, zi_f, bnd_t, zg_in, zx, nI_ltI, nI_leI, nI_eq, nI_add, pk_mul, pk_sub, mup_s, mup_c, mup_j, mrw_c, if_pos, if_neg, zm_1, zm_2, zm_3, zm_4, zm_5, zm_6, zm_7, zm_8, zm_9, zf_0, zf_1, zf_2, zf_3, zf_4, zf_5, zf_6, zf_7, zf_8, zf_9, zf_10, zf_14, zf_15, zf_16, zf_18, zf_19, zf_20, zf_24, zf_30, zf_31, zf_32, zf_33, zf_99, zf_100, zf_160, zf_200, zf_287, zf_288, zf_300, zf_1000, zf_1023, zf_1024, zf_1600, zf_3840, zf_25600, zf_36000, zf_1000000, zf_1000000000, zf_2000000000, zf_11560, za_1, za_2, za_4, za_5, za_6, za_7, za_8, za_9, za_10, za_11, za_12, za_14, za_15, za_22, za_23, za_25, za_26, za_27, za_28, za_29, za_30, za_31, za_32, za_33, za_34, za_35, za_41, za_42, za_43, za_44, za_45, za_46, za_47, za_48, za_49, za_61, za_62, za_63, za_64, za_65, za_71, za_72, za_73, za_74, za_75, za_76, za_77, za_78, za_79, za_80, za_81, za_82, za_83, za_84, za_85, za_86, za_87, za_88, za_89, za_90, za_91, za_92, za_93, za_94, za_95, za_96, za_97, za_98, za_99, za_100, za_101, za_102, za_103, za_104, za_105, za_106, za_107, za_108, bI_t]; rfl
  | false => simp (disch := omega) only [zi_t, zi_f, bnd_t, zg_in, zx, nI_ltI, nI_leI, nI_eq, nI_add, pk_mul, pk_sub, mup_s, mup_c, mup_j, mrw_c, if_pos, if_neg, zm_1, zm_2, zm_3, zm_4, zm_5, zm_6, zm_7, zm_8, zm_9, zf_0, zf_1, zf_2, zf_3, zf_4, zf_5, zf_6, zf_7, zf_8, zf_9, zf_10, zf_14, zf_15, zf_16, zf_18, zf_19, zf_20, zf_24, zf_30, zf_31, zf_32, zf_33, zf_99, zf_100, zf_160, zf_200, zf_287, zf_288, zf_300, zf_1000, zf_1023, zf_1024, zf_1600, zf_3840, zf_25600, zf_36000, zf_1000000, zf_1000000000, zf_2000000000, zf_11560, za_1, za_2, za_4, za_5, za_6, za_7, za_8, za_9, za_10, za_11, za_12, za_14, za_15, za_22, za_23, za_25, za_26, za_27, za_28, za_29, za_30, za_31, za_32, za_33, za_34, za_35, za_41, za_42, za_43, za_44, za_45, za_46, za_47, za_48, za_49, za_61, za_62, za_63, za_64, za_65, za_71, za_72, za_73, za_74, za_75, za_76, za_77, za_78, za_79, za_80, za_81, za_82, za_83, za_84, za_85, za_86, za_87, za_88, za_89, za_90, za_91, za_92, za_93, za_94, za_95, za_96, za_97, za_98, za_99, za_100, za_101, za_102, za_103, za_104, za_105, za_106, za_107, za_108, bI_f]; rfl
theorem pm_at {m : Mem} : ∀ {ρ : List Nat} {i : Nat}, PM m ρ → i < ρ.length → m 104 i = nI (ρ.getD (ρ.length - 1 - i) 8)
  | [], i, _, hi => absurd hi (Nat.not_lt_zero _)
  | y :: ρ, i, h, hi => by
    have e : (y :: ρ).length = ρ.length + 1 := rfl
    rw [e] at hi ⊢
    by_cases c : i = ρ.length
    · subst c
      rw [show ρ.length + 1 - 1 - ρ.length = 0 by omega]
      exact h.1
    · have := pm_at h.2 (by omega : i < ρ.length)
      rw [show ρ.length + 1 - 1 - i = (ρ.length - 1 - i) + 1 by omega]
      exact this
theorem mo_letterAt {N p : Nat} {m : Mem} {ρ : List Nat} (h : PM m ρ) (h42 : m 70 42 = nI ρ.length) (hl : ρ.length ≤ 287) (hp : p < 2 ^ 31) : F_X8_letterAt N m (nI p) = some (nI (ltP ρ p), m) := by
  unfold F_X8_letterAt B_X8_letterAt_19 ltP
  by_cases c : p < ρ.length
  · have e := pm_at h c
    rw [if_pos c]
    simp (disch := omega) only [zi_t, zi_f, bnd_t, zg_in, zx, nI_ltI, nI_leI, nI_eq, nI_add, pk_mul, pk_sub, mup_s, mup_c, mup_j, mrw_c, if_pos, if_neg, zm_1, zm_2, zm_3, zm_4, zm_5, zm_6, zm_7, zm_8, zm_9, zf_0, zf_1, zf_2, zf_3, zf_4, zf_5, zf_6, zf_7, zf_8, zf_9, zf_10, zf_14, zf_15, zf_16, zf_18, zf_19, zf_20, zf_24, zf_30, zf_31, zf_32, zf_33, zf_99, zf_100, zf_160, zf_200, zf_287, zf_288, zf_300, zf_1000, zf_1023, zf_1024, zf_1600, zf_3840, zf_25600, zf_36000, zf_1000000, zf_1000000000, zf_2000000000, zf_11560, za_1, za_2, za_4, za_5, za_6, za_7, za_8, za_9, za_10, za_11, za_12, za_14, za_15, za_22, za_23, za_25, za_26, za_27, za_28, za_29, za_30, za_31, za_32, za_33, za_34, za_35, za_41, za_42, za_43, za_44, za_45, za_46, za_47, za_48, za_49, za_61, za_62, za_63, za_64, za_65, za_71, za_72, za_73, za_74, za_75, za_76, za_77, za_78, za_79, za_80, za_81, za_82, za_83, za_84, za_85, za_86, za_87, za_88, za_89, za_90, za_91, za_92, za_93, za_94, za_95, za_96, za_97, za_98, za_99, za_100, za_101, za_102, za_103, za_104, za_105, za_106, za_107, za_108, h42, e]
  · rw [if_neg c]
    simp (disch := omega) only [zi_t, zi_f, bnd_t, zg_in, zx, nI_ltI, nI_leI, nI_eq, nI_add, pk_mul, pk_sub, mup_s, mup_c, mup_j, mrw_c, if_pos, if_neg, zm_1, zm_2, zm_3, zm_4, zm_5, zm_6, zm_7, zm_8, zm_9, zf_0, zf_1, zf_2, zf_3, zf_4, zf_5, zf_6, zf_7, zf_8, zf_9, zf_10, zf_14, zf_15, zf_16, zf_18, zf_19, zf_20, zf_24, zf_30, zf_31, zf_32, zf_33, zf_99, zf_100, zf_160, zf_200, zf_287, zf_288, zf_300, zf_1000, zf_1023, zf_1024, zf_1600, zf_3840, zf_25600, zf_36000, zf_1000000, zf_1000000000, zf_2000000000, zf_11560, za_1, za_2, za_4, za_5, za_6, za_7, za_8, za_9, za_10, za_11, za_12, za_14, za_15, za_22, za_23, za_25, za_26, za_27, za_28, za_29, za_30, za_31, za_32, za_33, za_34, za_35, za_41, za_42, za_43, za_44, za_45, za_46, za_47, za_48, za_49, za_61, za_62, za_63, za_64, za_65, za_71, za_72, za_73, za_74, za_75, za_76, za_77, za_78, za_79, za_80, za_81, za_82, za_83, za_84, za_85, za_86, za_87, za_88, za_89, za_90, za_91, za_92, za_93, za_94, za_95, za_96, za_97, za_98, za_99, za_100, za_101, za_102, za_103, za_104, za_105, za_106, za_107, za_108, h42]
/-- both look, and find the same -/
theorem look_ex {n : Nat} {u : Bool} {f : Nat → Bool} {L : ArL} {w : List Nat} {δ : Nat → Nat} (hV : VM (n, f, L)) (hwl : w.length ≤ 8) (hδ : IsD (eU u L w) (En n f w) δ) (h0 : δ 0 < 1000000000) (ch : Bool) : ∃ vi an : List Nat → Bool, WV vi an ∧ (∀ ρ, vi ρ = true ↔ ∃ b, SdR (wU u) L w δ ch ρ b) ∧ (∀ ρ, an ρ = true ↔ AnK n f w (CpR (wU u) L w δ ch ρ)) := by
  obtain ⟨a1, a2, a3, a4, a5, a6, a7⟩ := hV
  obtain ⟨vi, an, hvi, han⟩ := va_ex (wU u) n f L w δ ch
  obtain ⟨φ, hs, hφ⟩ := pot_wU (u := u) (δ := δ) (ch := ch) a5 a2 hwl a6 a7
  exact ⟨vi, an, wv_of a5 hδ h0 hvi han hs hφ, hvi, han⟩
theorem sim_answers {N : Nat} (hN : 1000000 < N) (x : Int32) (u : Bool) (Ms : List Ma) (w : List Nat) (ls : Ls) (hV : InV Ms w ls) : Sim1 (fun e => nI (3 - e)) (fun m => F_X7_answers N m x (bI u)) (fun m => F_X8_answers N m x (bI u)) Ms w ls := by
  have v1 := hV.1
  rcases i32_cases x Ms.length with ⟨i, hi, rfl⟩ | hx
  · obtain ⟨n, f, L, gA⟩ := ma_get hi
    have hVM := hV.2.1 _ (List.mem_of_getElem? gA)
    obtain ⟨a1, a2, a3, a4, a5, a6, a7⟩ := hVM
    have v3 := hV.2.2.1
    have v4 := hV.2.2.2.1
    have hG : GD i n L w := ⟨by omega, a5, a3, a2, v3, v4, a1⟩
    obtain ⟨δ, hδ⟩ := isd_ex (En := En n f w) (eg_bd (way := wU u) (w := w) v3 a2 a5)
    by_cases h0 : δ 0 < 1000000000
    · obtain ⟨vi, an, hv, hvi, han⟩ := look_ex ⟨a1, a2, a3, a4, a5, a6, a7⟩ v3 hδ h0 false
      have hv0 : vi [] = true := (hvi []).mpr ⟨0, rfl⟩
      obtain ⟨F, res, hF, hw⟩ := walk_ex (S := 20) hv hv0 (by omega)
      refine sim_ansX hV (nI res.1) (fun m hC => ?_) (fun m hM => ?_)
      · obtain ⟨m1, g1, g2, g3, g4⟩ := cl_look (N := N) (u := u) (by omega) hV hC hi gA hδ
        obtain ⟨m2, k1, k2, k3⟩ := cl_find (N := N) (S := 20) (ch := false) (by omega) (by omega) (by omega) (kn3 (by omega)) g2 a5 a3 a1 a2 (wU_lt u).2 v3 v4 hv hvi han (by omega) (by omega) h0 hw
        have o : Off 40 50 m m2 := fun c hc => by rw [k2 c hc, g4 c (by omega)]
        refine ⟨m2, ?_, hC.o4 o, fun k x1 x2 => o k (by omega)⟩
        show F_X7_answers N m (nI i) (bI u) = _
        unfold F_X7_answers
        rw [calx_t (need_ok hC v1 hi), calv_t g1]
        exact cal_t k1
      · have hM0 := hM.up0 (nI 0)
        obtain ⟨m2, k1, k2, k3⟩ := mo_answersTo (N := N) (last := 19) (by omega) hG (hM0.mst gA) hδ h0 hv hvi han (by omega) hw (by omega)
        refine ⟨m2, ?_, by rw [k2.2 0 (by simp), mup_s], hM0.fx k2 (by omega) (by omega) (by simp) (by simp) (by simp), fun k hk => by rw [k2.1 k (by omega) (by omega), mup_r (by omega)]⟩
        show F_X8_answers N m (nI i) (bI u) = _
        unfold F_X8_answers B_X8_answers_14 B_X8_answers_32
        rw [cal_t (ism_ok hM v1 hi)]
        simp (disch := omega) only [zi_t, zi_f, bnd_t, zg_in, zx, nI_ltI, nI_leI, nI_eq, nI_add, pk_mul, pk_sub, mup_s, mup_c, mup_j, mrw_c, if_pos, if_neg, zm_1, zm_2, zm_3, zm_4, zm_5, zm_6, zm_7, zm_8, zm_9, zf_0, zf_1, zf_2, zf_3, zf_4, zf_5, zf_6, zf_7, zf_8, zf_9, zf_10, zf_14, zf_15, zf_16, zf_18, zf_19, zf_20, zf_24, zf_30, zf_31, zf_32, zf_33, zf_99, zf_100, zf_160, zf_200, zf_287, zf_288, zf_300, zf_1000, zf_1023, zf_1024, zf_1600, zf_3840, zf_25600, zf_36000, zf_1000000, zf_1000000000, zf_2000000000, zf_11560, za_1, za_2, za_4, za_5, za_6, za_7, za_8, za_9, za_10, za_11, za_12, za_14, za_15, za_22, za_23, za_25, za_26, za_27, za_28, za_29, za_30, za_31, za_32, za_33, za_34, za_35, za_41, za_42, za_43, za_44, za_45, za_46, za_47, za_48, za_49, za_61, za_62, za_63, za_64, za_65, za_71, za_72, za_73, za_74, za_75, za_76, za_77, za_78, za_79, za_80, za_81, za_82, za_83, za_84, za_85, za_86, za_87, za_88, za_89, za_90, za_91, za_92, za_93, za_94, za_95, za_96, za_97, za_98, za_99, za_100, za_101, za_102, za_103, za_104, za_105, za_106, za_107, za_108]
        rw [cal_t fine_0]
        simp (disch := omega) only [zi_t, zi_f, bnd_t, zg_in, zx, nI_ltI, nI_leI, nI_eq, nI_add, pk_mul, pk_sub, mup_s, mup_c, mup_j, mrw_c, if_pos, if_neg, zm_1, zm_2, zm_3, zm_4, zm_5, zm_6, zm_7, zm_8, zm_9, zf_0, zf_1, zf_2, zf_3, zf_4, zf_5, zf_6, zf_7, zf_8, zf_9, zf_10, zf_14, zf_15, zf_16, zf_18, zf_19, zf_20, zf_24, zf_30, zf_31, zf_32, zf_33, zf_99, zf_100, zf_160, zf_200, zf_287, zf_288, zf_300, zf_1000, zf_1023, zf_1024, zf_1600, zf_3840, zf_25600, zf_36000, zf_1000000, zf_1000000000, zf_2000000000, zf_11560, za_1, za_2, za_4, za_5, za_6, za_7, za_8, za_9, za_10, za_11, za_12, za_14, za_15, za_22, za_23, za_25, za_26, za_27, za_28, za_29, za_30, za_31, za_32, za_33, za_34, za_35, za_41, za_42, za_43, za_44, za_45, za_46, za_47, za_48, za_49, za_61, za_62, za_63, za_64, za_65, za_71, za_72, za_73, za_74, za_75, za_76, za_77, za_78, za_79, za_80, za_81, za_82, za_83, za_84, za_85, za_86, za_87, za_88, za_89, za_90, za_91, za_92, za_93, za_94, za_95, za_96, za_97, za_98, za_99, za_100, za_101, za_102, za_103, za_104, za_105, za_106, za_107, za_108]
        rw [cal_t k1]
    · refine sim_ansX hV (nI 0) (fun m hC => ?_) (fun m hM => ?_)
      · obtain ⟨m1, g1, g2, g3, g4⟩ := cl_look (N := N) (u := u) (by omega) hV hC hi gA hδ
        obtain ⟨m2, k1, k2⟩ := cl_find0 (N := N) (S := 20) (ch := false) g2 a1 h0
        have o : Off 40 50 m m2 := fun c hc => by rw [k2 c hc, g4 c (by omega)]
        refine ⟨m2, ?_, hC.o4 o, fun k x1 x2 => o k (by omega)⟩
        show F_X7_answers N m (nI i) (bI u) = _
        unfold F_X7_answers
        rw [calx_t (need_ok hC v1 hi), calv_t g1]
        exact cal_t k1
      · have hM0 := hM.up0 (nI 0)
        obtain ⟨m2, g1, g2, g3⟩ := mo_rests (N := N) (u := u) (by omega) (by omega) (hM0.mst gA) a5 a3 a2 v3 v4 hδ
        have e0 := g3 0 (by omega)
        rw [show mF δ 0 = 2000000000 from if_neg h0] at e0
        refine ⟨m2, ?_, by rw [g2.2 0 (by simp), mup_s], hM0.fx g2 (by omega) (by omega) (by simp) (by simp) (by simp), fun k hk => by rw [g2.1 k (by omega) (by omega), mup_r (by omega)]⟩
        show F_X8_answers N m (nI i) (bI u) = _
        unfold F_X8_answers B_X8_answers_14 B_X8_answers_32 F_X8_answersTo
        rw [cal_t (ism_ok hM v1 hi)]
        simp (disch := omega) only [zi_t, zi_f, bnd_t, zg_in, zx, nI_ltI, nI_leI, nI_eq, nI_add, pk_mul, pk_sub, mup_s, mup_c, mup_j, mrw_c, if_pos, if_neg, zm_1, zm_2, zm_3, zm_4, zm_5, zm_6, zm_7, zm_8, zm_9, zf_0, zf_1, zf_2, zf_3, zf_4, zf_5, zf_6, zf_7, zf_8, zf_9, zf_10, zf_14, zf_15, zf_16, zf_18, zf_19, zf_20, zf_24, zf_30, zf_31, zf_32, zf_33, zf_99, zf_100, zf_160, zf_200, zf_287, zf_288, zf_300, zf_1000, zf_1023, zf_1024, zf_1600, zf_3840, zf_25600, zf_36000, zf_1000000, zf_1000000000, zf_2000000000, zf_11560, za_1, za_2, za_4, za_5, za_6, za_7, za_8, za_9, za_10, za_11, za_12, za_14, za_15, za_22, za_23, za_25, za_26, za_27, za_28, za_29, za_30, za_31, za_32, za_33, za_34, za_35, za_41, za_42, za_43, za_44, za_45, za_46, za_47, za_48, za_49, za_61, za_62, za_63, za_64, za_65, za_71, za_72, za_73, za_74, za_75, za_76, za_77, za_78, za_79, za_80, za_81, za_82, za_83, za_84, za_85, za_86, za_87, za_88, za_89, za_90, za_91, za_92, za_93, za_94, za_95, za_96, za_97, za_98, za_99, za_100, za_101, za_102, za_103, za_104, za_105, za_106, za_107, za_108]
        rw [cal_t fine_0]
        simp (disch := omega) only [zi_t, zi_f, bnd_t, zg_in, zx, nI_ltI, nI_leI, nI_eq, nI_add, pk_mul, pk_sub, mup_s, mup_c, mup_j, mrw_c, if_pos, if_neg, zm_1, zm_2, zm_3, zm_4, zm_5, zm_6, zm_7, zm_8, zm_9, zf_0, zf_1, zf_2, zf_3, zf_4, zf_5, zf_6, zf_7, zf_8, zf_9, zf_10, zf_14, zf_15, zf_16, zf_18, zf_19, zf_20, zf_24, zf_30, zf_31, zf_32, zf_33, zf_99, zf_100, zf_160, zf_200, zf_287, zf_288, zf_300, zf_1000, zf_1023, zf_1024, zf_1600, zf_3840, zf_25600, zf_36000, zf_1000000, zf_1000000000, zf_2000000000, zf_11560, za_1, za_2, za_4, za_5, za_6, za_7, za_8, za_9, za_10, za_11, za_12, za_14, za_15, za_22, za_23, za_25, za_26, za_27, za_28, za_29, za_30, za_31, za_32, za_33, za_34, za_35, za_41, za_42, za_43, za_44, za_45, za_46, za_47, za_48, za_49, za_61, za_62, za_63, za_64, za_65, za_71, za_72, za_73, za_74, za_75, za_76, za_77, za_78, za_79, za_80, za_81, za_82, za_83, za_84, za_85, za_86, za_87, za_88, za_89, za_90, za_91, za_92, za_93, za_94, za_95, za_96, za_97, za_98, za_99, za_100, za_101, za_102, za_103, za_104, za_105, za_106, za_107, za_108]
        rw [calv_t g1]
        simp (disch := omega) only [zi_t, zi_f, bnd_t, zg_in, zx, nI_ltI, nI_leI, nI_eq, nI_add, pk_mul, pk_sub, mup_s, mup_c, mup_j, mrw_c, if_pos, if_neg, zm_1, zm_2, zm_3, zm_4, zm_5, zm_6, zm_7, zm_8, zm_9, zf_0, zf_1, zf_2, zf_3, zf_4, zf_5, zf_6, zf_7, zf_8, zf_9, zf_10, zf_14, zf_15, zf_16, zf_18, zf_19, zf_20, zf_24, zf_30, zf_31, zf_32, zf_33, zf_99, zf_100, zf_160, zf_200, zf_287, zf_288, zf_300, zf_1000, zf_1023, zf_1024, zf_1600, zf_3840, zf_25600, zf_36000, zf_1000000, zf_1000000000, zf_2000000000, zf_11560, za_1, za_2, za_4, za_5, za_6, za_7, za_8, za_9, za_10, za_11, za_12, za_14, za_15, za_22, za_23, za_25, za_26, za_27, za_28, za_29, za_30, za_31, za_32, za_33, za_34, za_35, za_41, za_42, za_43, za_44, za_45, za_46, za_47, za_48, za_49, za_61, za_62, za_63, za_64, za_65, za_71, za_72, za_73, za_74, za_75, za_76, za_77, za_78, za_79, za_80, za_81, za_82, za_83, za_84, za_85, za_86, za_87, za_88, za_89, za_90, za_91, za_92, za_93, za_94, za_95, za_96, za_97, za_98, za_99, za_100, za_101, za_102, za_103, za_104, za_105, za_106, za_107, za_108, e0]
        rfl
  · refine sim_no hV 2 (fun m hC => ?_) (fun m hM => ?_)
    · show F_X7_answers N m x (bI u) = _
      unfold F_X7_answers
      rw [calx_e (need_no hC v1 hx)]
    · show F_X8_answers N m x (bI u) = _
      unfold F_X8_answers B_X8_answers_14 B_X8_answers_32
      rw [cal_t (ism_no hM v1 hx)]
      simp (disch := omega) only [zi_t, zi_f, bnd_t, zg_in, zx, nI_ltI, nI_leI, nI_eq, nI_add, pk_mul, pk_sub, mup_s, mup_c, mup_j, mrw_c, if_pos, if_neg, zm_1, zm_2, zm_3, zm_4, zm_5, zm_6, zm_7, zm_8, zm_9, zf_0, zf_1, zf_2, zf_3, zf_4, zf_5, zf_6, zf_7, zf_8, zf_9, zf_10, zf_14, zf_15, zf_16, zf_18, zf_19, zf_20, zf_24, zf_30, zf_31, zf_32, zf_33, zf_99, zf_100, zf_160, zf_200, zf_287, zf_288, zf_300, zf_1000, zf_1023, zf_1024, zf_1600, zf_3840, zf_25600, zf_36000, zf_1000000, zf_1000000000, zf_2000000000, zf_11560, za_1, za_2, za_4, za_5, za_6, za_7, za_8, za_9, za_10, za_11, za_12, za_14, za_15, za_22, za_23, za_25, za_26, za_27, za_28, za_29, za_30, za_31, za_32, za_33, za_34, za_35, za_41, za_42, za_43, za_44, za_45, za_46, za_47, za_48, za_49, za_61, za_62, za_63, za_64, za_65, za_71, za_72, za_73, za_74, za_75, za_76, za_77, za_78, za_79, za_80, za_81, za_82, za_83, za_84, za_85, za_86, za_87, za_88, za_89, za_90, za_91, za_92, za_93, za_94, za_95, za_96, za_97, za_98, za_99, za_100, za_101, za_102, za_103, za_104, za_105, za_106, za_107, za_108]
      rw [cal_t (fine_x (by omega) (by omega))]
      simp (disch := omega) only [zi_t, zi_f, bnd_t, zg_in, zx, nI_ltI, nI_leI, nI_eq, nI_add, pk_mul, pk_sub, mup_s, mup_c, mup_j, mrw_c, if_pos, if_neg, zm_1, zm_2, zm_3, zm_4, zm_5, zm_6, zm_7, zm_8, zm_9, zf_0, zf_1, zf_2, zf_3, zf_4, zf_5, zf_6, zf_7, zf_8, zf_9, zf_10, zf_14, zf_15, zf_16, zf_18, zf_19, zf_20, zf_24, zf_30, zf_31, zf_32, zf_33, zf_99, zf_100, zf_160, zf_200, zf_287, zf_288, zf_300, zf_1000, zf_1023, zf_1024, zf_1600, zf_3840, zf_25600, zf_36000, zf_1000000, zf_1000000000, zf_2000000000, zf_11560, za_1, za_2, za_4, za_5, za_6, za_7, za_8, za_9, za_10, za_11, za_12, za_14, za_15, za_22, za_23, za_25, za_26, za_27, za_28, za_29, za_30, za_31, za_32, za_33, za_34, za_35, za_41, za_42, za_43, za_44, za_45, za_46, za_47, za_48, za_49, za_61, za_62, za_63, za_64, za_65, za_71, za_72, za_73, za_74, za_75, za_76, za_77, za_78, za_79, za_80, za_81, za_82, za_83, za_84, za_85, za_86, za_87, za_88, za_89, za_90, za_91, za_92, za_93, za_94, za_95, za_96, za_97, za_98, za_99, za_100, za_101, za_102, za_103, za_104, za_105, za_106, za_107, za_108]
