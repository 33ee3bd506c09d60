/-! the model mends -/
theorem mo_tellsM {N i n : Nat} {f : Nat → Bool} {L : ArL} {w : List Nat} {δ : Nat → Nat} {vi an : List Nat → Bool} (hN : 2000000000000 < N) (hG : GD i n L w) (hδ : IsD (eG 2 L w) (En n f w) δ) (h0 : δ 0 < 1000000000) (hB : BdZ 2 L w) (hv : WV vi an) (hvi : ∀ ρ, vi ρ = true ↔ ∃ b, SdR 2 L w δ true ρ b) (han : ∀ ρ, an ρ = true ↔ AnK n f w (CpR 2 L w δ true ρ)) :
    ∀ M F ρ g m res, F ≤ M → walk vi an 1 F ρ 0 (if an ρ = true then 1 else 0) = some res → vi ρ = true → MLk m i n f L w δ → TBs 2 L w δ m ρ → m 70 42 = nI ρ.length → PM m ρ → F + 1 ≤ g →
      ∃ m', L_X8_tellsMended_22 N g m (nI i) (nI (δ 0)) = some m' ∧ Fx 100 105 [42] m m' ∧ m' 70 42 = nI res.2.length ∧ PM m' res.2 ∧ res.1 = 1 := by
  intro M
  induction M with
  | zero =>
    intro F ρ g m res hF hw
    rw [show F = 0 by omega] at hw
    cases hw
  | succ M ih =>
    intro F ρ g m res hF hw hv0 hM hTB h42 hPM hg
    obtain ⟨g, rfl⟩ : ∃ g', g = g' + 1 := ⟨g - 1, by omega⟩
    have hdone := mo_isDoneA (N := N) (by omega) hG hM hδ h0 han hTB
    have hlen := hv.1 ρ hv0
    show ∃ m', S_X8_tellsMended_22 N (L_X8_tellsMended_22 N g) m (nI i) (nI (δ 0)) = _ ∧ _
    cases ha : an ρ with
    | true =>
      rw [ha] at hdone
      rw [ha, if_pos rfl] at hw
      cases F with
      | zero => cases hw
      | succ F =>
        rw [walk_s, if_pos (Nat.le_refl _)] at hw
        have e := Option.some.inj hw
        rw [← e]
        refine ⟨m, ?_, Fx.rf, h42, hPM, rfl⟩
        unfold S_X8_tellsMended_22
        rw [cal_t hdone]
        simp (disch := omega) only [zi_t, zi_f, bnd_t, zg_in, zx, nI_ltI, nI_leI, nI_eq, nI_add, pk_mul, pk_sub, mup_s, mup_c, mup_j, mrw_c, if_pos, if_neg, zm_1, zm_2, zm_3, zm_4, zm_5, zm_6, zm_7, zm_8, zm_9, zf_0, zf_1, zf_2, zf_3, zf_4, zf_5, zf_6, zf_7, zf_8, zf_9, zf_10, zf_14, zf_15, zf_16, zf_18, zf_19, zf_20, zf_24, zf_30, zf_31, zf_32, zf_33, zf_99, zf_100, zf_160, zf_200, zf_287, zf_288, zf_300, zf_1000, zf_1023, zf_1024, zf_1600, zf_3840, zf_25600, zf_36000, zf_1000000, zf_1000000000, zf_2000000000, zf_11560, za_1, za_2, za_4, za_5, za_6, za_7, za_8, za_9, za_10, za_11, za_12, za_14, za_15, za_22, za_23, za_25, za_26, za_27, za_28, za_29, za_30, za_31, za_32, za_33, za_34, za_35, za_41, za_42, za_43, za_44, za_45, za_46, za_47, za_48, za_49, za_61, za_62, za_63, za_64, za_65, za_71, za_72, za_73, za_74, za_75, za_76, za_77, za_78, za_79, za_80, za_81, za_82, za_83, za_84, za_85, za_86, za_87, za_88, za_89, za_90, za_91, za_92, za_93, za_94, za_95, za_96, za_97, za_98, za_99, za_100, za_101, za_102, za_103, za_104, za_105, za_106, za_107, za_108, bI_t]
    | false =>
      rw [ha] at hdone
      rw [ha, if_neg (by simp)] at hw
      obtain ⟨y, hy, hyl⟩ : ∃ y, (y < 8 ∧ vi (y :: ρ) = true) ∧ ∀ z, z < y → ¬ (z < 8 ∧ vi (z :: ρ) = true) := by
        apply first_ex
        rcases hv.2.1 ρ hv0 with h | ⟨x, hx, hxv⟩
        · rw [ha] at h; cases h
        · exact ⟨x, hx, hxv⟩
      obtain ⟨hy8, hyv⟩ := hy
      have hno : ∀ z, z < y → vi (z :: ρ) = false := by
        intro z hz
        cases h : vi (z :: ρ) with
        | false => rfl
        | true => exact absurd ⟨by omega, h⟩ (hyl z hz)
      obtain ⟨F1, f1, f2⟩ := walk_skip (by omega : 0 < 1) y F 0 res (by omega) (fun z _ z2 => hno z (by omega)) hw
      rw [show 0 + y = y by omega] at f2
      have hlen2 : ρ.length + 1 ≤ 287 := hv.1 _ hyv
      cases F1 with
      | zero => cases f2
      | succ F1 =>
      rw [walk_s, if_neg (by omega), if_pos hy8, if_pos hyv] at f2
      unfold S_X8_tellsMended_22
      rw [cal_t hdone]
      simp (disch := omega) only [zi_t, zi_f, bnd_t, zg_in, zx, nI_ltI, nI_leI, nI_eq, nI_add, pk_mul, pk_sub, mup_s, mup_c, mup_j, mrw_c, if_pos, if_neg, zm_1, zm_2, zm_3, zm_4, zm_5, zm_6, zm_7, zm_8, zm_9, zf_0, zf_1, zf_2, zf_3, zf_4, zf_5, zf_6, zf_7, zf_8, zf_9, zf_10, zf_14, zf_15, zf_16, zf_18, zf_19, zf_20, zf_24, zf_30, zf_31, zf_32, zf_33, zf_99, zf_100, zf_160, zf_200, zf_287, zf_288, zf_300, zf_1000, zf_1023, zf_1024, zf_1600, zf_3840, zf_25600, zf_36000, zf_1000000, zf_1000000000, zf_2000000000, zf_11560, za_1, za_2, za_4, za_5, za_6, za_7, za_8, za_9, za_10, za_11, za_12, za_14, za_15, za_22, za_23, za_25, za_26, za_27, za_28, za_29, za_30, za_31, za_32, za_33, za_34, za_35, za_41, za_42, za_43, za_44, za_45, za_46, za_47, za_48, za_49, za_61, za_62, za_63, za_64, za_65, za_71, za_72, za_73, za_74, za_75, za_76, za_77, za_78, za_79, za_80, za_81, za_82, za_83, za_84, za_85, za_86, za_87, za_88, za_89, za_90, za_91, za_92, za_93, za_94, za_95, za_96, za_97, za_98, za_99, za_100, za_101, za_102, za_103, za_104, za_105, za_106, za_107, za_108, bI_f]
      refine loopF (fun k (m1 : Mem) z => L_X8_tellsMended_33 N (L_X8_tellsMended_22 N g) k m1 (nI i) (nI (δ 0)) (nI z)) y (fun z m1 => Fx 101 102 [] m m1) (fun o => ∃ m', o = some m' ∧ Fx 100 105 [42] m m' ∧ m' 70 42 = nI res.2.length ∧ PM m' res.2 ∧ res.1 = 1) ?_ ?_ N 0 m (Nat.zero_le _) Fx.rf (by omega)
      · rintro k z m1 hz i1
        have hM1 : MLk m1 i n f L w δ := hM.cg (fun c a b => i1.1 c (by omega) (by omega)) (i1.2 2 (by simp))
        have hTB1 := hTB.cg (i1.1 100 (by omega) (by omega))
        obtain ⟨lv, m2, g1, g2, g3, g4, g5⟩ := mo_goesCh (N := N) (x := z) (by omega) hG hM1 hδ h0 hB hlen (by omega) hTB1
        have hne : ¬ lv = δ 0 := by
          intro e
          have := (hvi (z :: ρ)).mpr (g4.mp e)
          rw [hno z hz] at this
          cases this
        left
        refine ⟨m2, i1.tr g3, ?_⟩
        show S_X8_tellsMended_33 N (L_X8_tellsMended_22 N g) (L_X8_tellsMended_33 N (L_X8_tellsMended_22 N g) k) m1 (nI i) (nI (δ 0)) (nI z) = _
        unfold S_X8_tellsMended_33
        rw [cal_t g1]
        simp (disch := omega) only [zi_t, zi_f, bnd_t, zg_in, zx, nI_ltI, nI_leI, nI_eq, nI_add, pk_mul, pk_sub, mup_s, mup_c, mup_j, mrw_c, if_pos, if_neg, zm_1, zm_2, zm_3, zm_4, zm_5, zm_6, zm_7, zm_8, zm_9, zf_0, zf_1, zf_2, zf_3, zf_4, zf_5, zf_6, zf_7, zf_8, zf_9, zf_10, zf_14, zf_15, zf_16, zf_18, zf_19, zf_20, zf_24, zf_30, zf_31, zf_32, zf_33, zf_99, zf_100, zf_160, zf_200, zf_287, zf_288, zf_300, zf_1000, zf_1023, zf_1024, zf_1600, zf_3840, zf_25600, zf_36000, zf_1000000, zf_1000000000, zf_2000000000, zf_11560, za_1, za_2, za_4, za_5, za_6, za_7, za_8, za_9, za_10, za_11, za_12, za_14, za_15, za_22, za_23, za_25, za_26, za_27, za_28, za_29, za_30, za_31, za_32, za_33, za_34, za_35, za_41, za_42, za_43, za_44, za_45, za_46, za_47, za_48, za_49, za_61, za_62, za_63, za_64, za_65, za_71, za_72, za_73, za_74, za_75, za_76, za_77, za_78, za_79, za_80, za_81, za_82, za_83, za_84, za_85, za_86, za_87, za_88, za_89, za_90, za_91, za_92, za_93, za_94, za_95, za_96, za_97, za_98, za_99, za_100, za_101, za_102, za_103, za_104, za_105, za_106, za_107, za_108]
      · rintro k m1 i1
        have i1 : Fx 101 102 [] m m1 := i1
        have hM1 : MLk m1 i n f L w δ := hM.cg (fun c a b => i1.1 c (by omega) (by omega)) (i1.2 2 (by simp))
        have hTB1 := hTB.cg (i1.1 100 (by omega) (by omega))
        obtain ⟨lv, m2, g1, g2, g3, g4, g5⟩ := mo_goesCh (N := N) (x := y) (by omega) hG hM1 hδ h0 hB hlen hy8 hTB1
        have heq : lv = δ 0 := g4.mpr ((hvi (y :: ρ)).mp hyv)
        rw [heq] at g1
        obtain ⟨m3, b1, b2, b3⟩ := mo_begF (N := N) (m := m2) (by omega)
        obtain ⟨T, t1, t2⟩ := tb_beg g5 b3
        have hM3 : MLk m3 i n f L w δ := hM1.cg (fun c a b => by rw [b2.1 c (by omega) (by omega), g3.1 c (by omega) (by omega)]) (by rw [b2.2 2 (by simp), g3.2 2 (by simp)])
        obtain ⟨m4, V4, c1, c2, c3, c4, c5⟩ := mo_closesCh (N := N) hN hG hM3 t1 (fun a j c b h hE => h.st hE)
        have hTB4 : TBs 2 L w δ m4 (y :: ρ) := ⟨V4, c3, min_cl hδ hB hlen2 t2 c4 c5⟩
        have e42 : m4 70 42 = nI ρ.length := by rw [c2.2 42 (by simp), b2.2 42 (by simp), g3.2 42 (by simp), i1.2 42 (by simp), h42]
        obtain ⟨m5, hm5⟩ : ∃ m5, m5 = mup (mup m4 104 ρ.length (nI y)) 70 42 (nI (ρ.length + 1)) := ⟨_, rfl⟩
        have o4 : Fx 100 105 [42] m m4 := ((i1.tr g3).wd (by omega) (by omega) (fun j h => by cases h)).tr ((b2.tr c2).wd (by omega) (by omega) (fun j h => by cases h))
        have o5 : Fx 100 105 [42] m m5 := by rw [hm5]; exact (o4.up (by omega) (by omega) (by omega)).sl (by simp)
        have hM5 : MLk m5 i n f L w δ := hM.cg (fun c a b => o5.1 c (by omega) (by omega)) (o5.2 2 (by simp))
        have hTB5 : TBs 2 L w δ m5 (y :: ρ) := hTB4.cg (by rw [hm5, mup_r (by omega), mup_r (by omega)])
        have e104 : ∀ j, j < ρ.length → m5 104 j = m 104 j := fun j hj => by rw [hm5, mup_c (by omega), mup_j (by omega), c2.1 104 (by omega) (by omega), b2.1 104 (by omega) (by omega), g3.1 104 (by omega) (by omega), i1.1 104 (by omega) (by omega)]
        have hPM5 : PM m5 (y :: ρ) := ⟨by rw [hm5, mup_c (by omega), mup_s], hPM.cg e104⟩
        obtain ⟨m', r1, r2, r3, r4, r5⟩ := ih F1 (y :: ρ) g m5 res (by omega) f2 hyv hM5 hTB5 (by rw [hm5, mup_s]; rfl) hPM5 (by omega)
        refine ⟨m', ?_, o5.tr r2, r3, r4, r5⟩
        show S_X8_tellsMended_33 N (L_X8_tellsMended_22 N g) (L_X8_tellsMended_33 N (L_X8_tellsMended_22 N g) k) m1 (nI i) (nI (δ 0)) (nI y) = _
        unfold S_X8_tellsMended_33
        rw [cal_t g1]
        simp (disch := omega) only [zi_t, zi_f, bnd_t, zg_in, zx, nI_ltI, nI_leI, nI_eq, nI_add, pk_mul, pk_sub, mup_s, mup_c, mup_j, mrw_c, if_pos, if_neg, zm_1, zm_2, zm_3, zm_4, zm_5, zm_6, zm_7, zm_8, zm_9, zf_0, zf_1, zf_2, zf_3, zf_4, zf_5, zf_6, zf_7, zf_8, zf_9, zf_10, zf_14, zf_15, zf_16, zf_18, zf_19, zf_20, zf_24, zf_30, zf_31, zf_32, zf_33, zf_99, zf_100, zf_160, zf_200, zf_287, zf_288, zf_300, zf_1000, zf_1023, zf_1024, zf_1600, zf_3840, zf_25600, zf_36000, zf_1000000, zf_1000000000, zf_2000000000, zf_11560, za_1, za_2, za_4, za_5, za_6, za_7, za_8, za_9, za_10, za_11, za_12, za_14, za_15, za_22, za_23, za_25, za_26, za_27, za_28, za_29, za_30, za_31, za_32, za_33, za_34, za_35, za_41, za_42, za_43, za_44, za_45, za_46, za_47, za_48, za_49, za_61, za_62, za_63, za_64, za_65, za_71, za_72, za_73, za_74, za_75, za_76, za_77, za_78, za_79, za_80, za_81, za_82, za_83, za_84, za_85, za_86, za_87, za_88, za_89, za_90, za_91, za_92, za_93, za_94, za_95, za_96, za_97, za_98, za_99, za_100, za_101, za_102, za_103, za_104, za_105, za_106, za_107, za_108]
        rw [calv_t b1, calv_t c1]
        simp (disch := omega) only [zi_t, zi_f, bnd_t, zg_in, zx, nI_ltI, nI_leI, nI_eq, nI_add, pk_mul, pk_sub, mup_s, mup_c, mup_j, mrw_c, if_pos, if_neg, zm_1, zm_2, zm_3, zm_4, zm_5, zm_6, zm_7, zm_8, zm_9, zf_0, zf_1, zf_2, zf_3, zf_4, zf_5, zf_6, zf_7, zf_8, zf_9, zf_10, zf_14, zf_15, zf_16, zf_18, zf_19, zf_20, zf_24, zf_30, zf_31, zf_32, zf_33, zf_99, zf_100, zf_160, zf_200, zf_287, zf_288, zf_300, zf_1000, zf_1023, zf_1024, zf_1600, zf_3840, zf_25600, zf_36000, zf_1000000, zf_1000000000, zf_2000000000, zf_11560, za_1, za_2, za_4, za_5, za_6, za_7, za_8, za_9, za_10, za_11, za_12, za_14, za_15, za_22, za_23, za_25, za_26, za_27, za_28, za_29, za_30, za_31, za_32, za_33, za_34, za_35, za_41, za_42, za_43, za_44, za_45, za_46, za_47, za_48, za_49, za_61, za_62, za_63, za_64, za_65, za_71, za_72, za_73, za_74, za_75, za_76, za_77, za_78, za_79, za_80, za_81, za_82, za_83, za_84, za_85, za_86, za_87, za_88, za_89, za_90, za_91, za_92, za_93, za_94, za_95, za_96, za_97, za_98, za_99, za_100, za_101, za_102, za_103, za_104, za_105, za_106, za_107, za_108, e42]
        rw [← hm5]
        exact r1
theorem mo_tellsMd {N i n F : Nat} {f : Nat → Bool} {L : ArL} {w : List Nat} {δ : Nat → Nat} {vi an : List Nat → Bool} {m : Mem} {res : Nat × List Nat} (hN : 2000000000000 < N) (hG : GD i n L w) (hM : MLk m i n f L w δ) (hδ : IsD (eG 2 L w) (En n f w) δ) (h0 : δ 0 < 1000000000) (hB : BdZ 2 L w) (hv : WV vi an) (hvi : ∀ ρ, vi ρ = true ↔ ∃ b, SdR 2 L w δ true ρ b) (han : ∀ ρ, an ρ = true ↔ AnK n f w (CpR 2 L w δ true ρ)) (hw : walk vi an 1 F [] 0 (if an [] = true then 1 else 0) = some res) (hF : F ≤ 110000) :
    ∃ m', F_X8_tellsMended N m (nI i) = some m' ∧ Fx 100 105 [42] m m' ∧ m' 70 42 = nI res.2.length ∧ PM m' res.2 ∧ res.1 = 1 := by
  have e0 := hM.2 0 (by omega)
  rw [show mF δ 0 = δ 0 from if_pos h0] at e0
  obtain ⟨m3, b1, b2, b3⟩ := mo_begT (N := N) (m := m) (by omega)
  obtain ⟨T, t1, t2⟩ := tb_beg0 (way := 2) (L := L) (w := w) b3
  have hM3 : MLk m3 i n f L w δ := hM.cg (fun c a b => b2.1 c (by omega) (by omega)) (b2.2 2 (by simp))
  obtain ⟨m4, V4, c1, c2, c3, c4, c5⟩ := mo_closesCh (N := N) hN hG hM3 t1 (fun a j c b h hE => h.st hE)
  have hTB4 : TBs 2 L w δ m4 [] := ⟨V4, c3, min_cl hδ hB (by simp) (fun b k h _ => t2 b k h) c4 c5⟩
  obtain ⟨m5, hm5⟩ : ∃ m5, m5 = mup m4 70 42 (nI 0) := ⟨_, rfl⟩
  have o5 : Fx 100 105 [42] m m5 := by rw [hm5]; exact ((b2.tr c2).wd (by omega) (by omega) (fun j h => by cases h)).sl (by simp)
  have hM5 : MLk m5 i n f L w δ := hM.cg (fun c a b => o5.1 c (by omega) (by omega)) (o5.2 2 (by simp))
  have hTB5 : TBs 2 L w δ m5 [] := hTB4.cg (by rw [hm5, mup_r (by omega)])
  have hv0 : vi [] = true := (hvi []).mpr ⟨0, rfl⟩
  obtain ⟨m', r1, r2, r3, r4, r5⟩ := mo_tellsM (N := N) hN hG hδ h0 hB hv hvi han F F [] N m5 res (Nat.le_refl _) hw hv0 hM5 hTB5 (by rw [hm5, mup_s]; rfl) trivial (by omega)
  refine ⟨m', ?_, o5.tr r2, r3, r4, r5⟩
  unfold F_X8_tellsMended
  simp (disch := omega) only [zi_t, zi_f, bnd_t, zg_in, zx, nI_ltI, nI_leI, nI_eq, nI_add, pk_mul, pk_sub, mup_s, mup_c, mup_j, mrw_c, if_pos, if_neg, zm_1, zm_2, zm_3, zm_4, zm_5, zm_6, zm_7, zm_8, zm_9, zf_0, zf_1, zf_2, zf_3, zf_4, zf_5, zf_6, zf_7, zf_8, zf_9, zf_10, zf_14, zf_15, zf_16, zf_18, zf_19, zf_20, zf_24, zf_30, zf_31, zf_32, zf_33, zf_99, zf_100, zf_160, zf_200, zf_287, zf_288, zf_300, zf_1000, zf_1023, zf_1024, zf_1600, zf_3840, zf_25600, zf_36000, zf_1000000, zf_1000000000, zf_2000000000, zf_11560, za_1, za_2, za_4, za_5, za_6, za_7, za_8, za_9, za_10, za_11, za_12, za_14, za_15, za_22, za_23, za_25, za_26, za_27, za_28, za_29, za_30, za_31, za_32, za_33, za_34, za_35, za_41, za_42, za_43, za_44, za_45, za_46, za_47, za_48, za_49, za_61, za_62, za_63, za_64, za_65, za_71, za_72, za_73, za_74, za_75, za_76, za_77, za_78, za_79, za_80, za_81, za_82, za_83, za_84, za_85, za_86, za_87, za_88, za_89, za_90, za_91, za_92, za_93, za_94, za_95, za_96, za_97, za_98, za_99, za_100, za_101, za_102, za_103, za_104, za_105, za_106, za_107, za_108, e0]
  rw [calv_t b1, calv_t c1]
  try simp (disch := omega) only [zi_t, zi_f, bnd_t, zg_in, zx, nI_ltI, nI_leI, nI_eq, nI_add, pk_mul, pk_sub, mup_s, mup_c, mup_j, mrw_c, if_pos, if_neg, zm_1, zm_2, zm_3, zm_4, zm_5, zm_6, zm_7, zm_8, zm_9, zf_0, zf_1, zf_2, zf_3, zf_4, zf_5, zf_6, zf_7, zf_8, zf_9, zf_10, zf_14, zf_15, zf_16, zf_18, zf_19, zf_20, zf_24, zf_30, zf_31, zf_32, zf_33, zf_99, zf_100, zf_160, zf_200, zf_287, zf_288, zf_300, zf_1000, zf_1023, zf_1024, zf_1600, zf_3840, zf_25600, zf_36000, zf_1000000, zf_1000000000, zf_2000000000, zf_11560, za_1, za_2, za_4, za_5, za_6, za_7, za_8, za_9, za_10, za_11, za_12, za_14, za_15, za_22, za_23, za_25, za_26, za_27, za_28, za_29, za_30, za_31, za_32, za_33, za_34, za_35, za_41, za_42, za_43, za_44, za_45, za_46, za_47, za_48, za_49, za_61, za_62, za_63, za_64, za_65, za_71, za_72, za_73, za_74, za_75, za_76, za_77, za_78, za_79, za_80, za_81, za_82, za_83, za_84, za_85, za_86, za_87, za_88, za_89, za_90, za_91, za_92, za_93, za_94, za_95, za_96, za_97, za_98, za_99, za_100, za_101, za_102, za_103, za_104, za_105, za_106, za_107, za_108]
  rw [← hm5]
  exact r1
theorem mend_ex {n : Nat} {f : Nat → Bool} {L : ArL} {w : List Nat} {δ : Nat → Nat} (hV : VM (n, f, L)) (hwl : w.length ≤ 8) (hδ : IsD (eG 2 L w) (En n f w) δ) (h0 : δ 0 < 1000000000) : ∃ vi an : List Nat → Bool, WV vi an ∧ (∀ ρ, vi ρ = true ↔ ∃ b, SdR 2 L w δ true ρ b) ∧ (∀ ρ, an ρ = true ↔ AnK n f w (CpR 2 L w δ true ρ)) := by
  obtain ⟨a1, a2, a3, a4, a5, a6, a7⟩ := hV
  obtain ⟨vi, an, hvi, han⟩ := va_ex 2 n f L w δ true
  obtain ⟨φ, hs, hφ⟩ := pot_w2 (δ := δ) a5 a2 hwl a6
  exact ⟨vi, an, wv_of a5 hδ h0 hvi han hs hφ, hvi, han⟩
theorem sim_mended {N : Nat} (hN : 2000000000000 < N) (x : Int32) (z : Int32) (Ms : List Ma) (w : List Nat) (ls : Ls) (hV : InV Ms w ls) : Sim1 (fun e => nI (3 - e)) (fun m => F_X7_mended N m x z) (fun m => F_X8_mended N m x z) Ms w ls := by
  have v1 := hV.1
  rcases i32_cases x Ms.length with ⟨i, hi, rfl⟩ | hx
  · rcases plc_cases z with ⟨p, hp, rfl⟩ | hu
    · obtain ⟨n, f, L, gA⟩ := ma_get hi
      have hVM := hV.2.1 _ (List.mem_of_getElem? gA)
      obtain ⟨a1, a2, a3, a4, a5, a6, a7⟩ := hVM
      have v3 := hV.2.2.1
      have v4 := hV.2.2.2.1
      have hG : GD i n L w := ⟨by omega, a5, a3, a2, v3, v4, a1⟩
      obtain ⟨δ, hδ⟩ := isd_ex (En := En n f w) (eg_bd (way := 2) (w := w) v3 a2 a5)
      by_cases h0 : δ 0 < 1000000000
      · obtain ⟨vi, an, hv, hvi, han⟩ := mend_ex ⟨a1, a2, a3, a4, a5, a6, a7⟩ v3 hδ h0
        have hv0 : vi [] = true := (hvi []).mpr ⟨0, rfl⟩
        obtain ⟨F, res, hF, hw⟩ := walk_ex (S := 1) hv hv0 (by omega)
        obtain ⟨w1, w2, w3⟩ := walk_inv hv.2.2 F [] 0 _ res hw hv0 (by split <;> omega)
        have hlen := hv.1 _ w1
        have hB := bdz_w2 a5 a2 v3
        have hmo : ∀ m, InM m Ms w ls → ∃ m2, F_X8_mended N m (nI i) (nI p) = some (nI (ltP res.2 p), m2) ∧ m2 70 0 = nI 0 ∧ InM m2 Ms w ls ∧ (∀ k, (k < 70 ∨ 108 ≤ k) → m2 k = m k) ∧ res.1 = 1 := by
          intro m hM
          have hM0 := hM.up0 (nI 0)
          obtain ⟨m1, g1, g2, g3⟩ := mo_restsC (N := N) (by omega) (by omega) (hM0.mst gA) a5 a3 a2 v3 v4 hδ
          have hM1 : MLk m1 i n f L w δ := ⟨(hM0.mst gA).cg (fun k a b => g2.1 k (by omega) (by omega)) (g2.2 2 (by simp)), g3⟩
          have e0 := g3 0 (by omega)
          rw [show mF δ 0 = δ 0 from if_pos h0] at e0
          obtain ⟨m2, k1, k2, k3, k4, k5⟩ := mo_tellsMd (N := N) hN hG hM1 hδ h0 hB hv hvi han hw hF
          have o2 : Fx 99 105 [42] (mup m 70 0 (nI 0)) m2 := (g2.wd (by omega) (by omega) (fun j h => by cases h)).tr (k2.wd (by omega) (by omega) (fun j h => h))
          refine ⟨m2, ?_, by rw [o2.2 0 (by simp), mup_s], hM0.fx o2 (by omega) (by omega) (by simp) (by simp) (by simp), fun k hk => by rw [o2.1 k (by omega) (by omega), mup_r (by omega)], k5⟩
          unfold F_X8_mended B_X8_mended_18
          rw [cal_t (ism_ok hM v1 hi)]
          simp (disch := omega) only [zi_t, zi_f, bnd_t, zg_in, zx, nI_ltI, nI_leI, nI_eq, nI_add, pk_mul, pk_sub, mup_s, mup_c, mup_j, mrw_c, if_pos, if_neg, zm_1, zm_2, zm_3, zm_4, zm_5, zm_6, zm_7, zm_8, zm_9, zf_0, zf_1, zf_2, zf_3, zf_4, zf_5, zf_6, zf_7, zf_8, zf_9, zf_10, zf_14, zf_15, zf_16, zf_18, zf_19, zf_20, zf_24, zf_30, zf_31, zf_32, zf_33, zf_99, zf_100, zf_160, zf_200, zf_287, zf_288, zf_300, zf_1000, zf_1023, zf_1024, zf_1600, zf_3840, zf_25600, zf_36000, zf_1000000, zf_1000000000, zf_2000000000, zf_11560, za_1, za_2, za_4, za_5, za_6, za_7, za_8, za_9, za_10, za_11, za_12, za_14, za_15, za_22, za_23, za_25, za_26, za_27, za_28, za_29, za_30, za_31, za_32, za_33, za_34, za_35, za_41, za_42, za_43, za_44, za_45, za_46, za_47, za_48, za_49, za_61, za_62, za_63, za_64, za_65, za_71, za_72, za_73, za_74, za_75, za_76, za_77, za_78, za_79, za_80, za_81, za_82, za_83, za_84, za_85, za_86, za_87, za_88, za_89, za_90, za_91, za_92, za_93, za_94, za_95, za_96, za_97, za_98, za_99, za_100, za_101, za_102, za_103, za_104, za_105, za_106, za_107, za_108]
          rw [cal_t fine_0]
          simp (disch := omega) only [zi_t, zi_f, bnd_t, zg_in, zx, nI_ltI, nI_leI, nI_eq, nI_add, pk_mul, pk_sub, mup_s, mup_c, mup_j, mrw_c, if_pos, if_neg, zm_1, zm_2, zm_3, zm_4, zm_5, zm_6, zm_7, zm_8, zm_9, zf_0, zf_1, zf_2, zf_3, zf_4, zf_5, zf_6, zf_7, zf_8, zf_9, zf_10, zf_14, zf_15, zf_16, zf_18, zf_19, zf_20, zf_24, zf_30, zf_31, zf_32, zf_33, zf_99, zf_100, zf_160, zf_200, zf_287, zf_288, zf_300, zf_1000, zf_1023, zf_1024, zf_1600, zf_3840, zf_25600, zf_36000, zf_1000000, zf_1000000000, zf_2000000000, zf_11560, za_1, za_2, za_4, za_5, za_6, za_7, za_8, za_9, za_10, za_11, za_12, za_14, za_15, za_22, za_23, za_25, za_26, za_27, za_28, za_29, za_30, za_31, za_32, za_33, za_34, za_35, za_41, za_42, za_43, za_44, za_45, za_46, za_47, za_48, za_49, za_61, za_62, za_63, za_64, za_65, za_71, za_72, za_73, za_74, za_75, za_76, za_77, za_78, za_79, za_80, za_81, za_82, za_83, za_84, za_85, za_86, za_87, za_88, za_89, za_90, za_91, za_92, za_93, za_94, za_95, za_96, za_97, za_98, za_99, za_100, za_101, za_102, za_103, za_104, za_105, za_106, za_107, za_108]
          rw [calv_t g1]
          simp (disch := omega) only [zi_t, zi_f, bnd_t, zg_in, zx, nI_ltI, nI_leI, nI_eq, nI_add, pk_mul, pk_sub, mup_s, mup_c, mup_j, mrw_c, if_pos, if_neg, zm_1, zm_2, zm_3, zm_4, zm_5, zm_6, zm_7, zm_8, zm_9, zf_0, zf_1, zf_2, zf_3, zf_4, zf_5, zf_6, zf_7, zf_8, zf_9, zf_10, zf_14, zf_15, zf_16, zf_18, zf_19, zf_20, zf_24, zf_30, zf_31, zf_32, zf_33, zf_99, zf_100, zf_160, zf_200, zf_287, zf_288, zf_300, zf_1000, zf_1023, zf_1024, zf_1600, zf_3840, zf_25600, zf_36000, zf_1000000, zf_1000000000, zf_2000000000, zf_11560, za_1, za_2, za_4, za_5, za_6, za_7, za_8, za_9, za_10, za_11, za_12, za_14, za_15, za_22, za_23, za_25, za_26, za_27, za_28, za_29, za_30, za_31, za_32, za_33, za_34, za_35, za_41, za_42, za_43, za_44, za_45, za_46, za_47, za_48, za_49, za_61, za_62, za_63, za_64, za_65, za_71, za_72, za_73, za_74, za_75, za_76, za_77, za_78, za_79, za_80, za_81, za_82, za_83, za_84, za_85, za_86, za_87, za_88, za_89, za_90, za_91, za_92, za_93, za_94, za_95, za_96, za_97, za_98, za_99, za_100, za_101, za_102, za_103, za_104, za_105, za_106, za_107, za_108, e0]
          rw [calv_t k1, cal_t (mo_letterAt k4 k3 hlen hp)]
        refine sim_ansX hV (nI (ltP res.2 p)) (fun m hC => ?_) (fun m hM => ?_)
        · obtain ⟨m1, g1, g2, g3, g4⟩ := cl_begin (N := N) (a := 200 + 4 * i) (way := 2) (by omega) (by omega) (by omega) (kn3 (by omega)) (hC.2.1 i _ gA) a5 a3 (by omega) v3 v4 hC.2.2.2.1 a2 hδ
          obtain ⟨m2, k1, k2, k3⟩ := cl_find (N := N) (S := 1) (ch := true) (by omega) (by omega) (by omega) (kn3 (by omega)) g2 a5 a3 a1 a2 (by omega) v3 v4 hv hvi han (by omega) (by omega) h0 hw
          have o : Off 40 50 m m2 := fun c hc => by rw [k2 c hc, g4 c (by omega)]
          have hr1 : 1 ≤ res.1 := walk_one hv F F [] res (Nat.le_refl _) hw hv0
          refine ⟨m2, ?_, hC.o4 o, fun k x1 x2 => o k (by omega)⟩
          have k1 : F_X4_find N m1 (nI 1) (nI 1) = some (nI res.1, m2) := k1
          obtain ⟨q1, q2⟩ := k3 hr1
          show F_X7_mended N m (nI i) (nI p) = _
          have e01 := hC.2.2.1
          unfold F_X7_mended B_X7_mended_55
          rw [calx_t (need_ok hC v1 hi), calx_t (plc_ok hp)]
          simp (disch := omega) only [zi_t, zi_f, bnd_t, zg_in, zx, nI_ltI, nI_leI, nI_eq, nI_add, pk_mul, pk_sub, mup_s, mup_c, mup_j, mrw_c, if_pos, if_neg, zm_1, zm_2, zm_3, zm_4, zm_5, zm_6, zm_7, zm_8, zm_9, zf_0, zf_1, zf_2, zf_3, zf_4, zf_5, zf_6, zf_7, zf_8, zf_9, zf_10, zf_14, zf_15, zf_16, zf_18, zf_19, zf_20, zf_24, zf_30, zf_31, zf_32, zf_33, zf_99, zf_100, zf_160, zf_200, zf_287, zf_288, zf_300, zf_1000, zf_1023, zf_1024, zf_1600, zf_3840, zf_25600, zf_36000, zf_1000000, zf_1000000000, zf_2000000000, zf_11560, za_1, za_2, za_4, za_5, za_6, za_7, za_8, za_9, za_10, za_11, za_12, za_14, za_15, za_22, za_23, za_25, za_26, za_27, za_28, za_29, za_30, za_31, za_32, za_33, za_34, za_35, za_41, za_42, za_43, za_44, za_45, za_46, za_47, za_48, za_49, za_61, za_62, za_63, za_64, za_65, za_71, za_72, za_73, za_74, za_75, za_76, za_77, za_78, za_79, za_80, za_81, za_82, za_83, za_84, za_85, za_86, za_87, za_88, za_89, za_90, za_91, za_92, za_93, za_94, za_95, za_96, za_97, za_98, za_99, za_100, za_101, za_102, za_103, za_104, za_105, za_106, za_107, za_108, e01]
          rw [calv_t g1]
          try simp (disch := omega) only [zi_t, zi_f, bnd_t, zg_in, zx, nI_ltI, nI_leI, nI_eq, nI_add, pk_mul, pk_sub, mup_s, mup_c, mup_j, mrw_c, if_pos, if_neg, zm_1, zm_2, zm_3, zm_4, zm_5, zm_6, zm_7, zm_8, zm_9, zf_0, zf_1, zf_2, zf_3, zf_4, zf_5, zf_6, zf_7, zf_8, zf_9, zf_10, zf_14, zf_15, zf_16, zf_18, zf_19, zf_20, zf_24, zf_30, zf_31, zf_32, zf_33, zf_99, zf_100, zf_160, zf_200, zf_287, zf_288, zf_300, zf_1000, zf_1023, zf_1024, zf_1600, zf_3840, zf_25600, zf_36000, zf_1000000, zf_1000000000, zf_2000000000, zf_11560, za_1, za_2, za_4, za_5, za_6, za_7, za_8, za_9, za_10, za_11, za_12, za_14, za_15, za_22, za_23, za_25, za_26, za_27, za_28, za_29, za_30, za_31, za_32, za_33, za_34, za_35, za_41, za_42, za_43, za_44, za_45, za_46, za_47, za_48, za_49, za_61, za_62, za_63, za_64, za_65, za_71, za_72, za_73, za_74, za_75, za_76, za_77, za_78, za_79, za_80, za_81, za_82, za_83, za_84, za_85, za_86, za_87, za_88, za_89, za_90, za_91, za_92, za_93, za_94, za_95, za_96, za_97, za_98, za_99, za_100, za_101, za_102, za_103, za_104, za_105, za_106, za_107, za_108]
          rw [cal_t k1]
          simp (disch := omega) only [zi_t, zi_f, bnd_t, zg_in, zx, nI_ltI, nI_leI, nI_eq, nI_add, pk_mul, pk_sub, mup_s, mup_c, mup_j, mrw_c, if_pos, if_neg, zm_1, zm_2, zm_3, zm_4, zm_5, zm_6, zm_7, zm_8, zm_9, zf_0, zf_1, zf_2, zf_3, zf_4, zf_5, zf_6, zf_7, zf_8, zf_9, zf_10, zf_14, zf_15, zf_16, zf_18, zf_19, zf_20, zf_24, zf_30, zf_31, zf_32, zf_33, zf_99, zf_100, zf_160, zf_200, zf_287, zf_288, zf_300, zf_1000, zf_1023, zf_1024, zf_1600, zf_3840, zf_25600, zf_36000, zf_1000000, zf_1000000000, zf_2000000000, zf_11560, za_1, za_2, za_4, za_5, za_6, za_7, za_8, za_9, za_10, za_11, za_12, za_14, za_15, za_22, za_23, za_25, za_26, za_27, za_28, za_29, za_30, za_31, za_32, za_33, za_34, za_35, za_41, za_42, za_43, za_44, za_45, za_46, za_47, za_48, za_49, za_61, za_62, za_63, za_64, za_65, za_71, za_72, za_73, za_74, za_75, za_76, za_77, za_78, za_79, za_80, za_81, za_82, za_83, za_84, za_85, za_86, za_87, za_88, za_89, za_90, za_91, za_92, za_93, za_94, za_95, za_96, za_97, za_98, za_99, za_100, za_101, za_102, za_103, za_104, za_105, za_106, za_107, za_108]
          rw [cal_t (cl_foundLetter q2 q1 hlen hp)]
        · obtain ⟨m2, s1, s2, s3, s4, _⟩ := hmo m hM
          exact ⟨m2, s1, s2, s3, s4⟩
      · refine sim_ansX hV nM (fun m hC => ?_) (fun m hM => ?_)
        · obtain ⟨m1, g1, g2, g3, g4⟩ := cl_begin (N := N) (a := 200 + 4 * i) (way := 2) (by omega) (by omega) (by omega) (kn3 (by omega)) (hC.2.1 i _ gA) a5 a3 (by omega) v3 v4 hC.2.2.2.1 a2 hδ
          obtain ⟨m2, k1, k2⟩ := cl_find0 (N := N) (S := 1) (ch := true) g2 a1 h0
          have o : Off 40 50 m m2 := fun c hc => by rw [k2 c hc, g4 c (by omega)]
          refine ⟨m2, ?_, hC.o4 o, fun k x1 x2 => o k (by omega)⟩
          have k1 : F_X4_find N m1 (nI 1) (nI 1) = some (nI 0, m2) := k1
          show F_X7_mended N m (nI i) (nI p) = _
          have e01 := hC.2.2.1
          unfold F_X7_mended B_X7_mended_55
          rw [calx_t (need_ok hC v1 hi), calx_t (plc_ok hp)]
          simp (disch := omega) only [zi_t, zi_f, bnd_t, zg_in, zx, nI_ltI, nI_leI, nI_eq, nI_add, pk_mul, pk_sub, mup_s, mup_c, mup_j, mrw_c, if_pos, if_neg, zm_1, zm_2, zm_3, zm_4, zm_5, zm_6, zm_7, zm_8, zm_9, zf_0, zf_1, zf_2, zf_3, zf_4, zf_5, zf_6, zf_7, zf_8, zf_9, zf_10, zf_14, zf_15, zf_16, zf_18, zf_19, zf_20, zf_24, zf_30, zf_31, zf_32, zf_33, zf_99, zf_100, zf_160, zf_200, zf_287, zf_288, zf_300, zf_1000, zf_1023, zf_1024, zf_1600, zf_3840, zf_25600, zf_36000, zf_1000000, zf_1000000000, zf_2000000000, zf_11560, za_1, za_2, za_4, za_5, za_6, za_7, za_8, za_9, za_10, za_11, za_12, za_14, za_15, za_22, za_23, za_25, za_26, za_27, za_28, za_29, za_30, za_31, za_32, za_33, za_34, za_35, za_41, za_42, za_43, za_44, za_45, za_46, za_47, za_48, za_49, za_61, za_62, za_63, za_64, za_65, za_71, za_72, za_73, za_74, za_75, za_76, za_77, za_78, za_79, za_80, za_81, za_82, za_83, za_84, za_85, za_86, za_87, za_88, za_89, za_90, za_91, za_92, za_93, za_94, za_95, za_96, za_97, za_98, za_99, za_100, za_101, za_102, za_103, za_104, za_105, za_106, za_107, za_108, e01]
          rw [calv_t g1]
          try simp (disch := omega) only [zi_t, zi_f, bnd_t, zg_in, zx, nI_ltI, nI_leI, nI_eq, nI_add, pk_mul, pk_sub, mup_s, mup_c, mup_j, mrw_c, if_pos, if_neg, zm_1, zm_2, zm_3, zm_4, zm_5, zm_6, zm_7, zm_8, zm_9, zf_0, zf_1, zf_2, zf_3, zf_4, zf_5, zf_6, zf_7, zf_8, zf_9, zf_10, zf_14, zf_15, zf_16, zf_18, zf_19, zf_20, zf_24, zf_30, zf_31, zf_32, zf_33, zf_99, zf_100, zf_160, zf_200, zf_287, zf_288, zf_300, zf_1000, zf_1023, zf_1024, zf_1600, zf_3840, zf_25600, zf_36000, zf_1000000, zf_1000000000, zf_2000000000, zf_11560, za_1, za_2, za_4, za_5, za_6, za_7, za_8, za_9, za_10, za_11, za_12, za_14, za_15, za_22, za_23, za_25, za_26, za_27, za_28, za_29, za_30, za_31, za_32, za_33, za_34, za_35, za_41, za_42, za_43, za_44, za_45, za_46, za_47, za_48, za_49, za_61, za_62, za_63, za_64, za_65, za_71, za_72, za_73, za_74, za_75, za_76, za_77, za_78, za_79, za_80, za_81, za_82, za_83, za_84, za_85, za_86, za_87, za_88, za_89, za_90, za_91, za_92, za_93, za_94, za_95, za_96, za_97, za_98, za_99, za_100, za_101, za_102, za_103, za_104, za_105, za_106, za_107, za_108]
          rw [cal_t k1]
          simp (disch := omega) only [zi_t, zi_f, bnd_t, zg_in, zx, nI_ltI, nI_leI, nI_eq, nI_add, pk_mul, pk_sub, mup_s, mup_c, mup_j, mrw_c, if_pos, if_neg, zm_1, zm_2, zm_3, zm_4, zm_5, zm_6, zm_7, zm_8, zm_9, zf_0, zf_1, zf_2, zf_3, zf_4, zf_5, zf_6, zf_7, zf_8, zf_9, zf_10, zf_14, zf_15, zf_16, zf_18, zf_19, zf_20, zf_24, zf_30, zf_31, zf_32, zf_33, zf_99, zf_100, zf_160, zf_200, zf_287, zf_288, zf_300, zf_1000, zf_1023, zf_1024, zf_1600, zf_3840, zf_25600, zf_36000, zf_1000000, zf_1000000000, zf_2000000000, zf_11560, za_1, za_2, za_4, za_5, za_6, za_7, za_8, za_9, za_10, za_11, za_12, za_14, za_15, za_22, za_23, za_25, za_26, za_27, za_28, za_29, za_30, za_31, za_32, za_33, za_34, za_35, za_41, za_42, za_43, za_44, za_45, za_46, za_47, za_48, za_49, za_61, za_62, za_63, za_64, za_65, za_71, za_72, za_73, za_74, za_75, za_76, za_77, za_78, za_79, za_80, za_81, za_82, za_83, za_84, za_85, za_86, za_87, za_88, za_89, za_90, za_91, za_92, za_93, za_94, za_95, za_96, za_97, za_98, za_99, za_100, za_101, za_102, za_103, za_104, za_105, za_106, za_107, za_108]
        · have hM0 := hM.up0 (nI 0)
          obtain ⟨m2, g1, g2, g3⟩ := mo_restsC (N := N) (by omega) (by omega) (hM0.mst gA) a5 a3 a2 v3 v4 hδ
          have e0 := g3 0 (by omega)
          rw [show mF δ 0 = 2000000000 from if_neg h0] at e0
          refine ⟨m2, ?_, by rw [g2.2 0 (by simp), mup_s], hM0.fx g2 (by omega) (by omega) (by simp) (by simp) (by simp), fun k hk => by rw [g2.1 k (by omega) (by omega), mup_r (by omega)]⟩
          show F_X8_mended N m (nI i) (nI p) = _
          unfold F_X8_mended B_X8_mended_18
          rw [cal_t (ism_ok hM v1 hi)]
          simp (disch := omega) only [zi_t, zi_f, bnd_t, zg_in, zx, nI_ltI, nI_leI, nI_eq, nI_add, pk_mul, pk_sub, mup_s, mup_c, mup_j, mrw_c, if_pos, if_neg, zm_1, zm_2, zm_3, zm_4, zm_5, zm_6, zm_7, zm_8, zm_9, zf_0, zf_1, zf_2, zf_3, zf_4, zf_5, zf_6, zf_7, zf_8, zf_9, zf_10, zf_14, zf_15, zf_16, zf_18, zf_19, zf_20, zf_24, zf_30, zf_31, zf_32, zf_33, zf_99, zf_100, zf_160, zf_200, zf_287, zf_288, zf_300, zf_1000, zf_1023, zf_1024, zf_1600, zf_3840, zf_25600, zf_36000, zf_1000000, zf_1000000000, zf_2000000000, zf_11560, za_1, za_2, za_4, za_5, za_6, za_7, za_8, za_9, za_10, za_11, za_12, za_14, za_15, za_22, za_23, za_25, za_26, za_27, za_28, za_29, za_30, za_31, za_32, za_33, za_34, za_35, za_41, za_42, za_43, za_44, za_45, za_46, za_47, za_48, za_49, za_61, za_62, za_63, za_64, za_65, za_71, za_72, za_73, za_74, za_75, za_76, za_77, za_78, za_79, za_80, za_81, za_82, za_83, za_84, za_85, za_86, za_87, za_88, za_89, za_90, za_91, za_92, za_93, za_94, za_95, za_96, za_97, za_98, za_99, za_100, za_101, za_102, za_103, za_104, za_105, za_106, za_107, za_108]
          rw [cal_t fine_0]
          simp (disch := omega) only [zi_t, zi_f, bnd_t, zg_in, zx, nI_ltI, nI_leI, nI_eq, nI_add, pk_mul, pk_sub, mup_s, mup_c, mup_j, mrw_c, if_pos, if_neg, zm_1, zm_2, zm_3, zm_4, zm_5, zm_6, zm_7, zm_8, zm_9, zf_0, zf_1, zf_2, zf_3, zf_4, zf_5, zf_6, zf_7, zf_8, zf_9, zf_10, zf_14, zf_15, zf_16, zf_18, zf_19, zf_20, zf_24, zf_30, zf_31, zf_32, zf_33, zf_99, zf_100, zf_160, zf_200, zf_287, zf_288, zf_300, zf_1000, zf_1023, zf_1024, zf_1600, zf_3840, zf_25600, zf_36000, zf_1000000, zf_1000000000, zf_2000000000, zf_11560, za_1, za_2, za_4, za_5, za_6, za_7, za_8, za_9, za_10, za_11, za_12, za_14, za_15, za_22, za_23, za_25, za_26, za_27, za_28, za_29, za_30, za_31, za_32, za_33, za_34, za_35, za_41, za_42, za_43, za_44, za_45, za_46, za_47, za_48, za_49, za_61, za_62, za_63, za_64, za_65, za_71, za_72, za_73, za_74, za_75, za_76, za_77, za_78, za_79, za_80, za_81, za_82, za_83, za_84, za_85, za_86, za_87, za_88, za_89, za_90, za_91, za_92, za_93, za_94, za_95, za_96, za_97, za_98, za_99, za_100, za_101, za_102, za_103, za_104, za_105, za_106, za_107, za_108]
          rw [calv_t g1]
          simp (disch := omega) only [zi_t, zi_f, bnd_t, zg_in, zx, nI_ltI, nI_leI, nI_eq, nI_add, pk_mul, pk_sub, mup_s, mup_c, mup_j, mrw_c, if_pos, if_neg, zm_1, zm_2, zm_3, zm_4, zm_5, zm_6, zm_7, zm_8, zm_9, zf_0, zf_1, zf_2, zf_3, zf_4, zf_5, zf_6, zf_7, zf_8, zf_9, zf_10, zf_14, zf_15, zf_16, zf_18, zf_19, zf_20, zf_24, zf_30, zf_31, zf_32, zf_33, zf_99, zf_100, zf_160, zf_200, zf_287, zf_288, zf_300, zf_1000, zf_1023, zf_1024, zf_1600, zf_3840, zf_25600, zf_36000, zf_1000000, zf_1000000000, zf_2000000000, zf_11560, za_1, za_2, za_4, za_5, za_6, za_7, za_8, za_9, za_10, za_11, za_12, za_14, za_15, za_22, za_23, za_25, za_26, za_27, za_28, za_29, za_30, za_31, za_32, za_33, za_34, za_35, za_41, za_42, za_43, za_44, za_45, za_46, za_47, za_48, za_49, za_61, za_62, za_63, za_64, za_65, za_71, za_72, za_73, za_74, za_75, za_76, za_77, za_78, za_79, za_80, za_81, za_82, za_83, za_84, za_85, za_86, za_87, za_88, za_89, za_90, za_91, za_92, za_93, za_94, za_95, za_96, za_97, za_98, za_99, za_100, za_101, za_102, za_103, za_104, za_105, za_106, za_107, za_108, e0]
    · refine sim_no hV 2 (fun m hC => ?_) (fun m hM => ?_)
      · show F_X7_mended N m (nI i) z = _
        unfold F_X7_mended
        rw [calx_t (need_ok hC v1 hi), calx_e (plc_no hu)]
      · show F_X8_mended N m (nI i) z = _
        unfold F_X8_mended B_X8_mended_17 B_X8_mended_18
        rw [cal_t (ism_ok hM v1 hi)]
        simp (disch := omega) only [zi_t, zi_f, bnd_t, zg_in, zx, nI_ltI, nI_leI, nI_eq, nI_add, pk_mul, pk_sub, mup_s, mup_c, mup_j, mrw_c, if_pos, if_neg, zm_1, zm_2, zm_3, zm_4, zm_5, zm_6, zm_7, zm_8, zm_9, zf_0, zf_1, zf_2, zf_3, zf_4, zf_5, zf_6, zf_7, zf_8, zf_9, zf_10, zf_14, zf_15, zf_16, zf_18, zf_19, zf_20, zf_24, zf_30, zf_31, zf_32, zf_33, zf_99, zf_100, zf_160, zf_200, zf_287, zf_288, zf_300, zf_1000, zf_1023, zf_1024, zf_1600, zf_3840, zf_25600, zf_36000, zf_1000000, zf_1000000000, zf_2000000000, zf_11560, za_1, za_2, za_4, za_5, za_6, za_7, za_8, za_9, za_10, za_11, za_12, za_14, za_15, za_22, za_23, za_25, za_26, za_27, za_28, za_29, za_30, za_31, za_32, za_33, za_34, za_35, za_41, za_42, za_43, za_44, za_45, za_46, za_47, za_48, za_49, za_61, za_62, za_63, za_64, za_65, za_71, za_72, za_73, za_74, za_75, za_76, za_77, za_78, za_79, za_80, za_81, za_82, za_83, za_84, za_85, za_86, za_87, za_88, za_89, za_90, za_91, za_92, za_93, za_94, za_95, za_96, za_97, za_98, za_99, za_100, za_101, za_102, za_103, za_104, za_105, za_106, za_107, za_108, hu]
        rw [cal_t (fine_x (by omega) (by omega))]
        simp (disch := omega) only [zi_t, zi_f, bnd_t, zg_in, zx, nI_ltI, nI_leI, nI_eq, nI_add, pk_mul, pk_sub, mup_s, mup_c, mup_j, mrw_c, if_pos, if_neg, zm_1, zm_2, zm_3, zm_4, zm_5, zm_6, zm_7, zm_8, zm_9, zf_0, zf_1, zf_2, zf_3, zf_4, zf_5, zf_6, zf_7, zf_8, zf_9, zf_10, zf_14, zf_15, zf_16, zf_18, zf_19, zf_20, zf_24, zf_30, zf_31, zf_32, zf_33, zf_99, zf_100, zf_160, zf_200, zf_287, zf_288, zf_300, zf_1000, zf_1023, zf_1024, zf_1600, zf_3840, zf_25600, zf_36000, zf_1000000, zf_1000000000, zf_2000000000, zf_11560, za_1, za_2, za_4, za_5, za_6, za_7, za_8, za_9, za_10, za_11, za_12, za_14, za_15, za_22, za_23, za_25, za_26, za_27, za_28, za_29, za_30, za_31, za_32, za_33, za_34, za_35, za_41, za_42, za_43, za_44, za_45, za_46, za_47, za_48, za_49, za_61, za_62, za_63, za_64, za_65, za_71, za_72, za_73, za_74, za_75, za_76, za_77, za_78, za_79, za_80, za_81, za_82, za_83, za_84, za_85, za_86, za_87, za_88, za_89, za_90, za_91, za_92, za_93, za_94, za_95, za_96, za_97, za_98, za_99, za_100, za_101, za_102, za_103, za_104, za_105, za_106, za_107, za_108]
  · refine sim_no hV 2 (fun m hC => ?_) (fun m hM => ?_)
    · show F_X7_mended N m x z = _
      unfold F_X7_mended
      rw [calx_e (need_no hC v1 hx)]
    · show F_X8_mended N m x z = _
      unfold F_X8_mended B_X8_mended_17 B_X8_mended_18
      rw [cal_t (ism_no hM v1 hx)]
      simp (disch := omega) only [zi_t, zi_f, bnd_t, zg_in, zx, nI_ltI, nI_leI, nI_eq, nI_add, pk_mul, pk_sub, mup_s, mup_c, mup_j, mrw_c, if_pos, if_neg, zm_1, zm_2, zm_3, zm_4, zm_5, zm_6, zm_7, zm_8, zm_9, zf_0, zf_1, zf_2, zf_3, zf_4, zf_5, zf_6, zf_7, zf_8, zf_9, zf_10, zf_14, zf_15, zf_16, zf_18, zf_19, zf_20, zf_24, zf_30, zf_31, zf_32, zf_33, zf_99, zf_100, zf_160, zf_200, zf_287, zf_288, zf_300, zf_1000, zf_1023, zf_1024, zf_1600, zf_3840, zf_25600, zf_36000, zf_1000000, zf_1000000000, zf_2000000000, zf_11560, za_1, za_2, za_4, za_5, za_6, za_7, za_8, za_9, za_10, za_11, za_12, za_14, za_15, za_22, za_23, za_25, za_26, za_27, za_28, za_29, za_30, za_31, za_32, za_33, za_34, za_35, za_41, za_42, za_43, za_44, za_45, za_46, za_47, za_48, za_49, za_61, za_62, za_63, za_64, za_65, za_71, za_72, za_73, za_74, za_75, za_76, za_77, za_78, za_79, za_80, za_81, za_82, za_83, za_84, za_85, za_86, za_87, za_88, za_89, za_90, za_91, za_92, za_93, za_94, za_95, za_96, za_97, za_98, za_99, za_100, za_101, za_102, za_103, za_104, za_105, za_106, za_107, za_108]
      rw [cal_t (fine_x (by omega) (by omega))]
      simp (disch := omega) only [zi_t, zi_f, bnd_t, zg_in, zx, nI_ltI, nI_leI, nI_eq, nI_add, pk_mul, pk_sub, mup_s, mup_c, mup_j, mrw_c, if_pos, if_neg, zm_1, zm_2, zm_3, zm_4, zm_5, zm_6, zm_7, zm_8, zm_9, zf_0, zf_1, zf_2, zf_3, zf_4, zf_5, zf_6, zf_7, zf_8, zf_9, zf_10, zf_14, zf_15, zf_16, zf_18, zf_19, zf_20, zf_24, zf_30, zf_31, zf_32, zf_33, zf_99, zf_100, zf_160, zf_200, zf_287, zf_288, zf_300, zf_1000, zf_1023, zf_1024, zf_1600, zf_3840, zf_25600, zf_36000, zf_1000000, zf_1000000000, zf_2000000000, zf_11560, za_1, za_2, za_4, za_5, za_6, za_7, za_8, za_9, za_10, za_11, za_12, za_14, za_15, za_22, za_23, za_25, za_26, za_27, za_28, za_29, za_30, za_31, za_32, za_33, za_34, za_35, za_41, za_42, za_43, za_44, za_45, za_46, za_47, za_48, za_49, za_61, za_62, za_63, za_64, za_65, za_71, za_72, za_73, za_74, za_75, za_76, za_77, za_78, za_79, za_80, za_81, za_82, za_83, za_84, za_85, za_86, za_87, za_88, za_89, za_90, za_91, za_92, za_93, za_94, za_95, za_96, za_97, za_98, za_99, za_100, za_101, za_102, za_103, za_104, za_105, za_106, za_107, za_108]
