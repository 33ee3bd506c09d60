def PL (m : Mem) : List Nat → Prop
  | [] => True
  | y :: ρ => m 49 ρ.length = nI y ∧ PL m ρ
theorem FI.pl {way : Nat} {L : ArL} {w : List Nat} {δ : Nat → Nat} {ch : Bool} {vi : List Nat → Bool} {m : Mem} : ∀ {ρ : List Nat} {x : Nat}, FI way L w δ ch vi m ρ x → PL m ρ
  | [], _, _ => trivial
  | _ :: _, _, h => ⟨h.2.2.1, FI.pl h.2.2.2⟩
theorem cl_findLoop {N a way n S : Nat} {f : Nat → Bool} {L : ArL} {w : List Nat} {δ : Nat → Nat} {ch : Bool} {vi an : List Nat → Bool} (hN : 40000 < N) (ha : 200 ≤ a) (ha2 : a < 300) (hk : (knd a == 3) = true) (hok : DOK n L) (hl : L.length ≤ 160) (h1 : 1 ≤ n) (hn : n ≤ 32) (hway : way < 3) (hwl : w.length ≤ 8) (hwx : ∀ x, x ∈ w → x < 8) (hv : WV vi an) (hvi : ∀ ρ, vi ρ = true ↔ ∃ b, SdR way L w δ ch ρ b) (han : ∀ ρ, an ρ = true ↔ AnK n f w (CpR way L w δ ch ρ)) (hS : S ≤ 20) :
    ∀ M F ρ x k β t g m res, F ≤ M → WI vi ρ x β → walk vi an S F ρ x k = some res → FI way L w δ ch vi m ρ x → SF m a way n f L w δ ch → k ≤ S → (S ≤ k → m 40 13 = nI ρ.length) → t + 2 * wP S k ρ.length β + ρ.length ≤ 11550 → 2 * wP S k ρ.length β + ρ.length + 3 < g →
      ∃ m', L_X4_find_55 N g m (nI S) (nI k) (nI ρ.length) (nI t) = some (nI res.1, m') ∧ Off 40 50 m m' ∧ (S ≤ res.1 → m' 40 13 = nI res.2.length ∧ PL m' res.2) := by
  intro M
  induction M with
  | zero =>
    intro F ρ x k β t g m res hF _ hw
    rw [show F = 0 by omega] at hw
    cases hw
  | succ M ih =>
    intro F ρ x k β t g m res hF hI hw hFI hSF hkS h13 ht hg
    obtain ⟨g, rfl⟩ : ∃ g', g = g' + 1 := ⟨g - 1, by omega⟩
    show ∃ m', S_X4_find_55 N (L_X4_find_55 N g) m (nI S) (nI k) (nI ρ.length) (nI t) = _ ∧ _
    have hlen := hv.1 ρ hI.1
    by_cases cS : S ≤ k
    · cases F with
      | zero => cases hw
      | succ F =>
        rw [walk_s, if_pos cS] at hw
        have e := Option.some.inj hw
        rw [← e]
        refine ⟨m, ?_, Off.rf, fun _ => ⟨h13 cS, hFI.pl⟩⟩
        unfold S_X4_find_55 B_X4_find_167
        simp (disch := omega) only [zi_t, zi_f, bnd_t, zg_in, zx, nI_ltI, nI_leI, nI_eq, nI_add, pk_mul, pk_sub, mup_s, mup_c, mup_j, mrw_c, if_pos, if_neg, zm_1, zm_2, zm_3, zm_4, zm_5, zm_6, zm_7, zm_8, zm_9, zf_0, zf_1, zf_2, zf_3, zf_4, zf_5, zf_6, zf_7, zf_8, zf_9, zf_10, zf_14, zf_15, zf_16, zf_18, zf_19, zf_20, zf_24, zf_30, zf_31, zf_32, zf_33, zf_99, zf_100, zf_160, zf_200, zf_287, zf_288, zf_300, zf_1000, zf_1023, zf_1024, zf_1600, zf_3840, zf_25600, zf_36000, zf_1000000, zf_1000000000, zf_2000000000, zf_11560, za_1, za_2, za_4, za_5, za_6, za_7, za_8, za_9, za_10, za_11, za_12, za_14, za_15, za_22, za_23, za_25, za_26, za_27, za_28, za_29, za_30, za_31, za_32, za_33, za_34, za_35, za_41, za_42, za_43, za_44, za_45, za_46, za_47, za_48, za_49, za_61, za_62, za_63, za_64, za_65, za_70]
    · have hLL := hFI.row.2
      rcases cl_lowest (N := N) (m := m) (r := m 48 ρ.length) hN with ⟨y, hy, y1, y2, y3⟩ | ⟨y2, y3⟩
      · obtain ⟨hxy, hvy⟩ := (hLL y hy).mp y1
        have hno : ∀ z, x ≤ z → z < x + (y - x) → vi (z :: ρ) = false := by
          intro z z1 z2
          cases hz : vi (z :: ρ) with
          | false => rfl
          | true =>
            have := (hLL z (by omega)).mpr ⟨z1, hz⟩
            rw [y2 z (by omega)] at this; cases this
        obtain ⟨F1, f1, f2⟩ := walk_skip (by omega : k < S) (y - x) F x res (by omega) hno hw
        rw [show x + (y - x) = y by omega] at f2
        have hI' : WI vi ρ y β := ⟨hI.1, by omega, hI.2.2.1, fun hb => by
          obtain ⟨z, z1, z2, z3⟩ := hI.2.2.2 hb
          refine ⟨z, ?_, z2, z3⟩
          rcases Nat.lt_or_ge z y with c | c
          · rw [hno z z1 (by omega)] at z3; cases z3
          · exact c⟩
        obtain ⟨β', w1, w2⟩ := wi_down (k := k) (S := S) hv hI' hy hvy (by omega)
        have hlen2 : ρ.length + 1 ≤ 287 := hv.1 _ hvy
        cases F1 with
        | zero => cases f2
        | succ F1 =>
        rw [walk_s, if_neg cS, if_pos hy, if_pos hvy] at f2
        obtain ⟨m2, hm2⟩ : ∃ m2, m2 = mup (mup m 48 ρ.length (m 48 ρ.length &&& (q_shl (nI 1) (nI y) ^^^ nM))) 49 ρ.length (nI y) := ⟨_, rfl⟩
        have o2 : Off 47 50 m m2 := by rw [hm2]; exact (Off.rf.up (by omega) (by omega)).up (by omega) (by omega)
        have hSF2 := hSF.off ha o2
        have hrow2 : RW' m2 w ρ.length (CpR way L w δ ch ρ) := hFI.row.1.cg hwl (fun j _ => by rw [hm2, mup_c (by omega), mup_c (by omega)])
        have hKN := clo_kn (way := way) (δ := δ) (ch := ch) hok hn (sdr_kn (way := way) (δ := δ) (ch := ch) (w := w) hok hn h1 ρ)
        obtain ⟨m3, s1, s2, s3⟩ := cl_step (N := N) (x := y) hN ha ha2 hk hSF2 hok hl hn hway hwl hwx (by omega : ρ.length + 1 < 288) hy hKN hrow2
        have hSF3 := hSF2.off ha s2.off
        obtain ⟨m4, b, e1, e2, e3, e4, e5⟩ := cl_enter (N := N) hN ha ha2 hk hSF3 hok hl hn hway hwl hwx (by omega : ρ.length + 1 < 288) (sdr_kn (way := way) (δ := δ) (ch := ch) (w := w) hok hn h1 (y :: ρ)) s3
        have hban : b = an (y :: ρ) := by rw [Bool.eq_iff_iff, e4]; exact (han (y :: ρ)).symm
        have hFI4 : ∀ v : Bool, FI way L w δ ch vi (if v = true then mup m4 40 13 (nI (ρ.length + 1)) else m4) (y :: ρ) 0 := by
          intro v
          have hFIm4 : FI way L w δ ch vi m4 (y :: ρ) 0 := by
            refine ⟨e3, fun z hz => ?_, ?_, ?_⟩
            · rw [e5 z hz]
              constructor
              · intro h; exact ⟨Nat.zero_le _, (hvi (z :: y :: ρ)).mpr h⟩
              · intro h; exact (hvi (z :: y :: ρ)).mp h.2
            · rw [e2.1 49 (by omega) (by omega), s2.1 49 (by omega), hm2, mup_s]
            · have hup : FI way L w δ ch vi (mup (mup m 48 ρ.length (m 48 ρ.length &&& (q_shl (nI 1) (nI y) ^^^ nM))) 49 ρ.length (nI y)) ρ (y + 1) := by
                have hrowB : LL vi (mup (mup m 48 ρ.length (m 48 ρ.length &&& (q_shl (nI 1) (nI y) ^^^ nM))) 49 ρ.length (nI y)) ρ.length ρ (y + 1) := by
                  intro z hz
                  rw [mup_c (by omega), mup_s, tb_clr (by omega) (by omega), Bool.and_eq_true, decide_eq_true_eq, hLL z hz]
                  constructor
                  · rintro ⟨⟨z1, z2⟩, z3⟩
                    refine ⟨?_, z2⟩
                    rcases Nat.lt_trichotomy z y with c | c | c
                    · rw [hno z z1 (by omega)] at z2; cases z2
                    · exact absurd c z3
                    · omega
                  · rintro ⟨z1, z2⟩
                    exact ⟨⟨by omega, z2⟩, by omega⟩
                cases ρ with
                | nil => exact ⟨hFI.1.cg hwl (fun j _ => by rw [mup_c (by omega), mup_c (by omega)]), hrowB⟩
                | cons y' ρ' =>
                  have e : (y' :: ρ').length = ρ'.length + 1 := rfl
                  refine ⟨hFI.1.cg hwl (fun j _ => by rw [mup_c (by omega), mup_c (by omega)]), hrowB, ?_, ?_⟩
                  · rw [mup_j (by omega), mup_c (by omega)]; exact hFI.2.2.1
                  · exact FI.cg hwl hFI.2.2.2 (fun j _ => by rw [mup_c (by omega), mup_c (by omega)]) (fun j hj => by rw [mup_c (by omega), mup_j (by omega)]) (fun j hj => by rw [mup_j (by omega), mup_c (by omega)])
              rw [← hm2] at hup
              exact FI.cg hwl hup (fun j hj => by rw [e2.2.1 j (by omega), s2.2 j (by omega)]) (fun j hj => by rw [e2.2.2 j (by omega), s2.1 48 (by omega)]) (fun j hj => by rw [e2.1 49 (by omega) (by omega), s2.1 49 (by omega)])
          cases v with
          | false => exact hFIm4
          | true =>
            show FI way L w δ ch vi (mup m4 40 13 (nI (ρ.length + 1))) (y :: ρ) 0
            exact FI.cg hwl hFIm4 (fun j _ => by rw [mup_c (by omega)]) (fun j _ => by rw [mup_c (by omega)]) (fun j _ => by rw [mup_c (by omega)])
        have o4 : Off 40 50 m m4 := fun c hc => by rw [e2.off c (by omega), s2.off c (by omega), o2 c (by omega)]
        have hSF4 := hSF3.off ha e2.off
        have hstep : S_X4_find_55 N (L_X4_find_55 N g) m (nI S) (nI k) (nI ρ.length) (nI t) = (if b = true then L_X4_find_55 N g (mup m4 40 13 (nI (ρ.length + 1))) (nI S) (nI (k + 1)) (nI (ρ.length + 1)) (nI (t + 1)) else L_X4_find_55 N g m4 (nI S) (nI k) (nI (ρ.length + 1)) (nI (t + 1))) := by
          rw [hm2] at s1
          unfold S_X4_find_55 B_X4_find_161
          simp (disch := omega) only [zi_t, zi_f, bnd_t, zg_in, zx, nI_ltI, nI_leI, nI_eq, nI_add, pk_mul, pk_sub, mup_s, mup_c, mup_j, mrw_c, if_pos, if_neg, zm_1, zm_2, zm_3, zm_4, zm_5, zm_6, zm_7, zm_8, zm_9, zf_0, zf_1, zf_2, zf_3, zf_4, zf_5, zf_6, zf_7, zf_8, zf_9, zf_10, zf_14, zf_15, zf_16, zf_18, zf_19, zf_20, zf_24, zf_30, zf_31, zf_32, zf_33, zf_99, zf_100, zf_160, zf_200, zf_287, zf_288, zf_300, zf_1000, zf_1023, zf_1024, zf_1600, zf_3840, zf_25600, zf_36000, zf_1000000, zf_1000000000, zf_2000000000, zf_11560, za_1, za_2, za_4, za_5, za_6, za_7, za_8, za_9, za_10, za_11, za_12, za_14, za_15, za_22, za_23, za_25, za_26, za_27, za_28, za_29, za_30, za_31, za_32, za_33, za_34, za_35, za_41, za_42, za_43, za_44, za_45, za_46, za_47, za_48, za_49, za_61, za_62, za_63, za_64, za_65, za_70]
          rw [cal_t y3]
          simp (disch := omega) only [zi_t, zi_f, bnd_t, zg_in, zx, nI_ltI, nI_leI, nI_eq, nI_add, pk_mul, pk_sub, mup_s, mup_c, mup_j, mrw_c, if_pos, if_neg, zm_1, zm_2, zm_3, zm_4, zm_5, zm_6, zm_7, zm_8, zm_9, zf_0, zf_1, zf_2, zf_3, zf_4, zf_5, zf_6, zf_7, zf_8, zf_9, zf_10, zf_14, zf_15, zf_16, zf_18, zf_19, zf_20, zf_24, zf_30, zf_31, zf_32, zf_33, zf_99, zf_100, zf_160, zf_200, zf_287, zf_288, zf_300, zf_1000, zf_1023, zf_1024, zf_1600, zf_3840, zf_25600, zf_36000, zf_1000000, zf_1000000000, zf_2000000000, zf_11560, za_1, za_2, za_4, za_5, za_6, za_7, za_8, za_9, za_10, za_11, za_12, za_14, za_15, za_22, za_23, za_25, za_26, za_27, za_28, za_29, za_30, za_31, za_32, za_33, za_34, za_35, za_41, za_42, za_43, za_44, za_45, za_46, za_47, za_48, za_49, za_61, za_62, za_63, za_64, za_65, za_70]
          rw [calv_t s1, cal_t e1]
          cases b with
          | true => simp (disch := omega) only [zi_t, zi_f, bnd_t, zg_in, zx, nI_ltI, nI_leI, nI_eq, nI_add, pk_mul, pk_sub, mup_s, mup_c, mup_j, mrw_c, if_pos, if_neg, zm_1, zm_2, zm_3, zm_4, zm_5, zm_6, zm_7, zm_8, zm_9, zf_0, zf_1, zf_2, zf_3, zf_4, zf_5, zf_6, zf_7, zf_8, zf_9, zf_10, zf_14, zf_15, zf_16, zf_18, zf_19, zf_20, zf_24, zf_30, zf_31, zf_32, zf_33, zf_99, zf_100, zf_160, zf_200, zf_287, zf_288, zf_300, zf_1000, zf_1023, zf_1024, zf_1600, zf_3840, zf_25600, zf_36000, zf_1000000, zf_1000000000, zf_2000000000, zf_11560, za_1, za_2, za_4, za_5, za_6, za_7, za_8, za_9, za_10, za_11, za_12, za_14, za_15, za_22, za_23, za_25, za_26, za_27, za_28, za_29, za_30, za_31, za_32, za_33, za_34, za_35, za_41, za_42, za_43, za_44, za_45, za_46, za_47, za_48, za_49, za_61, za_62, za_63, za_64, za_65, za_70, bI_t]
          | false => simp (disch := omega) only [zi_t, zi_f, bnd_t, zg_in, zx, nI_ltI, nI_leI, nI_eq, nI_add, pk_mul, pk_sub, mup_s, mup_c, mup_j, mrw_c, if_pos, if_neg, zm_1, zm_2, zm_3, zm_4, zm_5, zm_6, zm_7, zm_8, zm_9, zf_0, zf_1, zf_2, zf_3, zf_4, zf_5, zf_6, zf_7, zf_8, zf_9, zf_10, zf_14, zf_15, zf_16, zf_18, zf_19, zf_20, zf_24, zf_30, zf_31, zf_32, zf_33, zf_99, zf_100, zf_160, zf_200, zf_287, zf_288, zf_300, zf_1000, zf_1023, zf_1024, zf_1600, zf_3840, zf_25600, zf_36000, zf_1000000, zf_1000000000, zf_2000000000, zf_11560, za_1, za_2, za_4, za_5, za_6, za_7, za_8, za_9, za_10, za_11, za_12, za_14, za_15, za_22, za_23, za_25, za_26, za_27, za_28, za_29, za_30, za_31, za_32, za_33, za_34, za_35, za_41, za_42, za_43, za_44, za_45, za_46, za_47, za_48, za_49, za_61, za_62, za_63, za_64, za_65, za_70, bI_f]; rfl
        rw [hstep]
        cases hb : an (y :: ρ) with
        | true =>
          rw [hb] at hban
          rw [hban, if_pos rfl]
          rw [hb, if_pos rfl] at f2 w2
          have hI2 : FI way L w δ ch vi (mup m4 40 13 (nI (ρ.length + 1))) (y :: ρ) 0 := hFI4 true
          obtain ⟨m', r1, r2, r3⟩ := ih F1 (y :: ρ) 0 (k + 1) β' (t + 1) g _ res (by omega) w1 f2 hI2 (hSF4.cg ha (fun c hc => by rw [mup_r (by omega)]) (fun j hj => by rw [mup_j (by omega)])) (by omega) (fun _ => by rw [mup_s]; rfl) (by show t + 1 + 2 * wP S (k + 1) (ρ.length + 1) β' + (ρ.length + 1) ≤ 11550; omega) (by show 2 * wP S (k + 1) (ρ.length + 1) β' + (ρ.length + 1) + 3 < g; omega)
          exact ⟨m', r1, fun c hc => by rw [r2 c hc]; show mup m4 40 13 _ c = _; rw [mup_r (by omega), o4 c hc], r3⟩
        | false =>
          rw [hb] at hban
          rw [hban, if_neg (by simp)]
          rw [hb, if_neg (by simp)] at f2 w2
          have hI2 : FI way L w δ ch vi m4 (y :: ρ) 0 := hFI4 false
          obtain ⟨m', r1, r2, r3⟩ := ih F1 (y :: ρ) 0 k β' (t + 1) g _ res (by omega) w1 f2 hI2 hSF4 (by omega) (fun h => absurd h cS) (by show t + 1 + 2 * wP S k (ρ.length + 1) β' + (ρ.length + 1) ≤ 11550; omega) (by show 2 * wP S k (ρ.length + 1) β' + (ρ.length + 1) + 3 < g; omega)
          exact ⟨m', r1, fun c hc => by rw [r2 c hc]; exact o4 c hc, r3⟩
      · have hno : ∀ z, x ≤ z → z < 8 → vi (z :: ρ) = false := by
          intro z z1 z2
          cases hz : vi (z :: ρ) with
          | false => rfl
          | true =>
            have := (hLL z z2).mpr ⟨z1, hz⟩
            rw [y2 z z2] at this; cases this
        have hx8 := hI.2.1
        obtain ⟨F1, f1, f2⟩ := walk_skip (by omega : k < S) (8 - x) F x res (by omega) (fun z z1 z2 => hno z z1 (by omega)) hw
        rw [show x + (8 - x) = 8 by omega] at f2
        cases F1 with
        | zero => cases f2
        | succ F1 =>
        rw [walk_s, if_neg cS, if_neg (by omega)] at f2
        cases ρ with
        | nil =>
          have e := Option.some.inj f2
          rw [← e]
          obtain ⟨g, rfl⟩ : ∃ g', g = g' + 1 := ⟨g - 1, by omega⟩
          have y3 : F_X4_lowestIn N m (m 48 0) = some (nM, m) := y3
          refine ⟨m, ?_, Off.rf, fun h => absurd h cS⟩
          show S_X4_find_55 N (L_X4_find_55 N (g + 1)) m (nI S) (nI k) (nI 0) (nI t) = _
          unfold S_X4_find_55 B_X4_find_101 B_X4_find_161
          simp (disch := omega) only [zi_t, zi_f, bnd_t, zg_in, zx, nI_ltI, nI_leI, nI_eq, nI_add, pk_mul, pk_sub, mup_s, mup_c, mup_j, mrw_c, if_pos, if_neg, zm_1, zm_2, zm_3, zm_4, zm_5, zm_6, zm_7, zm_8, zm_9, zf_0, zf_1, zf_2, zf_3, zf_4, zf_5, zf_6, zf_7, zf_8, zf_9, zf_10, zf_14, zf_15, zf_16, zf_18, zf_19, zf_20, zf_24, zf_30, zf_31, zf_32, zf_33, zf_99, zf_100, zf_160, zf_200, zf_287, zf_288, zf_300, zf_1000, zf_1023, zf_1024, zf_1600, zf_3840, zf_25600, zf_36000, zf_1000000, zf_1000000000, zf_2000000000, zf_11560, za_1, za_2, za_4, za_5, za_6, za_7, za_8, za_9, za_10, za_11, za_12, za_14, za_15, za_22, za_23, za_25, za_26, za_27, za_28, za_29, za_30, za_31, za_32, za_33, za_34, za_35, za_41, za_42, za_43, za_44, za_45, za_46, za_47, za_48, za_49, za_61, za_62, za_63, za_64, za_65, za_70]
          rw [cal_t y3]
          simp (disch := omega) only [zi_t, zi_f, bnd_t, zg_in, zx, nI_ltI, nI_leI, nI_eq, nI_add, pk_mul, pk_sub, mup_s, mup_c, mup_j, mrw_c, if_pos, if_neg, zm_1, zm_2, zm_3, zm_4, zm_5, zm_6, zm_7, zm_8, zm_9, zf_0, zf_1, zf_2, zf_3, zf_4, zf_5, zf_6, zf_7, zf_8, zf_9, zf_10, zf_14, zf_15, zf_16, zf_18, zf_19, zf_20, zf_24, zf_30, zf_31, zf_32, zf_33, zf_99, zf_100, zf_160, zf_200, zf_287, zf_288, zf_300, zf_1000, zf_1023, zf_1024, zf_1600, zf_3840, zf_25600, zf_36000, zf_1000000, zf_1000000000, zf_2000000000, zf_11560, za_1, za_2, za_4, za_5, za_6, za_7, za_8, za_9, za_10, za_11, za_12, za_14, za_15, za_22, za_23, za_25, za_26, za_27, za_28, za_29, za_30, za_31, za_32, za_33, za_34, za_35, za_41, za_42, za_43, za_44, za_45, za_46, za_47, za_48, za_49, za_61, za_62, za_63, za_64, za_65, za_70]
          show S_X4_find_55 N (L_X4_find_55 N g) m (nI S) (nI k) (nI 0 + nM) (nI (t + 1)) = _
          rw [pI_dec]
          show S_X4_find_55 N (L_X4_find_55 N g) m (nI S) (nI k) nM (nI (t + 1)) = _
          unfold S_X4_find_55 B_X4_find_167
          simp (disch := omega) only [zi_t, zi_f, bnd_t, zg_in, zx, nI_ltI, nI_leI, nI_eq, nI_add, pk_mul, pk_sub, mup_s, mup_c, mup_j, mrw_c, if_pos, if_neg, zm_1, zm_2, zm_3, zm_4, zm_5, zm_6, zm_7, zm_8, zm_9, zf_0, zf_1, zf_2, zf_3, zf_4, zf_5, zf_6, zf_7, zf_8, zf_9, zf_10, zf_14, zf_15, zf_16, zf_18, zf_19, zf_20, zf_24, zf_30, zf_31, zf_32, zf_33, zf_99, zf_100, zf_160, zf_200, zf_287, zf_288, zf_300, zf_1000, zf_1023, zf_1024, zf_1600, zf_3840, zf_25600, zf_36000, zf_1000000, zf_1000000000, zf_2000000000, zf_11560, za_1, za_2, za_4, za_5, za_6, za_7, za_8, za_9, za_10, za_11, za_12, za_14, za_15, za_22, za_23, za_25, za_26, za_27, za_28, za_29, za_30, za_31, za_32, za_33, za_34, za_35, za_41, za_42, za_43, za_44, za_45, za_46, za_47, za_48, za_49, za_61, za_62, za_63, za_64, za_65, za_70]
        | cons y ρ =>
          have e : (y :: ρ).length = ρ.length + 1 := rfl
          rw [e] at y3 ht hg ⊢
          obtain ⟨w1, w2⟩ := wi_up (k := k) (S := S) hv hI hno
          obtain ⟨m', r1, r2, r3⟩ := ih F1 ρ (y + 1) k false (t + 1) g m res (by omega) w1 f2 hFI.2.2.2 hSF hkS (fun h => absurd h cS) (by rw [w2]; omega) (by rw [w2]; omega)
          refine ⟨m', ?_, r2, r3⟩
          rw [← r1]
          have hd : nI (ρ.length + 1) + nM = nI ρ.length := pI_dec (ρ.length + 1)
          unfold S_X4_find_55 B_X4_find_101 B_X4_find_161
          simp (disch := omega) only [zi_t, zi_f, bnd_t, zg_in, zx, nI_ltI, nI_leI, nI_eq, nI_add, pk_mul, pk_sub, mup_s, mup_c, mup_j, mrw_c, if_pos, if_neg, zm_1, zm_2, zm_3, zm_4, zm_5, zm_6, zm_7, zm_8, zm_9, zf_0, zf_1, zf_2, zf_3, zf_4, zf_5, zf_6, zf_7, zf_8, zf_9, zf_10, zf_14, zf_15, zf_16, zf_18, zf_19, zf_20, zf_24, zf_30, zf_31, zf_32, zf_33, zf_99, zf_100, zf_160, zf_200, zf_287, zf_288, zf_300, zf_1000, zf_1023, zf_1024, zf_1600, zf_3840, zf_25600, zf_36000, zf_1000000, zf_1000000000, zf_2000000000, zf_11560, za_1, za_2, za_4, za_5, za_6, za_7, za_8, za_9, za_10, za_11, za_12, za_14, za_15, za_22, za_23, za_25, za_26, za_27, za_28, za_29, za_30, za_31, za_32, za_33, za_34, za_35, za_41, za_42, za_43, za_44, za_45, za_46, za_47, za_48, za_49, za_61, za_62, za_63, za_64, za_65, za_70]
          rw [cal_t y3]
          simp (disch := omega) only [zi_t, zi_f, bnd_t, zg_in, zx, nI_ltI, nI_leI, nI_eq, nI_add, pk_mul, pk_sub, mup_s, mup_c, mup_j, mrw_c, if_pos, if_neg, zm_1, zm_2, zm_3, zm_4, zm_5, zm_6, zm_7, zm_8, zm_9, zf_0, zf_1, zf_2, zf_3, zf_4, zf_5, zf_6, zf_7, zf_8, zf_9, zf_10, zf_14, zf_15, zf_16, zf_18, zf_19, zf_20, zf_24, zf_30, zf_31, zf_32, zf_33, zf_99, zf_100, zf_160, zf_200, zf_287, zf_288, zf_300, zf_1000, zf_1023, zf_1024, zf_1600, zf_3840, zf_25600, zf_36000, zf_1000000, zf_1000000000, zf_2000000000, zf_11560, za_1, za_2, za_4, za_5, za_6, za_7, za_8, za_9, za_10, za_11, za_12, za_14, za_15, za_22, za_23, za_25, za_26, za_27, za_28, za_29, za_30, za_31, za_32, za_33, za_34, za_35, za_41, za_42, za_43, za_44, za_45, za_46, za_47, za_48, za_49, za_61, za_62, za_63, za_64, za_65, za_70, hd]
