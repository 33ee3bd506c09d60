def S_X8_learn_38 (N : Nat) (rec_38 : Mem → Int32 → Int32 → Option (Int32 × Mem)) (m : Mem) (x1 : Int32) (x2 : Int32) : Option (Int32 × Mem) :=
  if (m 70 2) ≤ x2 then (
    gd (inb (m 70 46) (alen 106)) <|
    bnd (mup m 106 (ix (m 70 46)) (m 70 2)) fun m5 =>
    gd (inb (m5 70 46) (alen 107)) <|
    bnd (mup m5 107 (ix (m5 70 46)) x1) fun m7 =>
    bnd (mup m7 70 46 ((m7 70 46) + (1 : Int32))) fun m8 =>
    some (m8 70 46, m8)
  ) else (
    gd (inb x2 (alen 71)) <|
    gd (inb (((8 : Int32) * (m 70 46)) + x2) (alen 105)) <|
    bnd (mup m 105 (ix (((8 : Int32) * (m 70 46)) + x2)) (m 71 (ix x2))) fun m11 =>
    bnd (x2 + (1 : Int32)) fun y12 =>
    rec_38 m11 x1 y12
  )
def L_X8_learn_38 (N : Nat) : Nat → Mem → Int32 → Int32 → Option (Int32 × Mem)
  | 0 => fun _ _ _ => none
  | f + 1 => S_X8_learn_38 N (L_X8_learn_38 N f)
set_option maxRecDepth 100000 in
set_option maxHeartbeats 4000000 in
theorem lp_X8_learn_38 {N : Nat} {K : KT} {m' : Mem} {r : Int32} (hK : KOK K cX8_learn 3 RX8 wsX8_learn 1 0 22) (hR : KRet K (some .int) (some r) m') : ∀ (f : Nat) {m : Mem} {x1 : Int32} {x2 : Int32}, L_X8_learn_38 N f m x1 x2 = some (r, m') → AW K 0 38 [(0, q_r 70), (1, q_i x1), (2, q_i x2)] [] m := by
  intro f
  induction f with
  | zero => intro m x1 x2 hF; cases hF
  | succ f hrec_38 =>
    intro m x1 x2 hF
    have hF : S_X8_learn_38 N (L_X8_learn_38 N f) m x1 x2 = some (r, m') := hF
    unfold S_X8_learn_38 at hF
    refine aw_iload_n hK 2 rfl dX8_learn_38 ?_
    refine aw_aload_n hK 0 rfl dX8_learn_39 ?_
    refine gf_8_2 hK rfl (List.mem_of_getElem? (i := 2) rfl) dX8_learn_40 ?_
    refine aw_icmp_ge hK 72 rfl dX8_learn_43 (fun hc => ?_) (fun hc => ?_)
    · have hF := if_t hF hc
      refine aw_aload_n hK 0 rfl dX8_learn_72 ?_
      refine gf_8_44 hK rfl (106) rfl (List.mem_of_getElem? (i := 5) rfl) dX8_learn_73 ?_
      refine aw_aload_n hK 0 rfl dX8_learn_76 ?_
      refine gf_8_46 hK rfl (List.mem_of_getElem? (i := 1) rfl) dX8_learn_77 ?_
      refine aw_aload_n hK 0 rfl dX8_learn_80 ?_
      refine gf_8_2 hK rfl (List.mem_of_getElem? (i := 2) rfl) dX8_learn_81 ?_
      obtain ⟨g4, hF⟩ := gd_some hF
      refine aw_iast hK rfl g4 dX8_learn_84 ?_
      obtain ⟨m5, hm5, hF⟩ := bnd_some hF
      refine aw_mm hm5 ?_
      refine aw_aload_n hK 0 rfl dX8_learn_85 ?_
      refine gf_8_45 hK rfl (107) rfl (List.mem_of_getElem? (i := 6) rfl) dX8_learn_86 ?_
      refine aw_aload_n hK 0 rfl dX8_learn_89 ?_
      refine gf_8_46 hK rfl (List.mem_of_getElem? (i := 1) rfl) dX8_learn_90 ?_
      refine aw_iload_n hK 1 rfl dX8_learn_93 ?_
      obtain ⟨g6, hF⟩ := gd_some hF
      refine aw_iast hK rfl g6 dX8_learn_94 ?_
      obtain ⟨m7, hm7, hF⟩ := bnd_some hF
      refine aw_mm hm7 ?_
      refine aw_aload_n hK 0 rfl dX8_learn_95 ?_
      refine aw_dup hK rfl dX8_learn_96 ?_
      refine gf_8_46 hK rfl (List.mem_of_getElem? (i := 1) rfl) dX8_learn_97 ?_
      refine aw_iconst hK (1) rfl dX8_learn_100 ?_
      refine aw_iadd hK dX8_learn_101 ?_
      refine pf_8_46 hK rfl (List.mem_of_getElem? (i := 1) rfl) dX8_learn_102 ?_
      obtain ⟨m8, hm8, hF⟩ := bnd_some hF
      refine aw_mm hm8 ?_
      refine aw_aload_n hK 0 rfl dX8_learn_105 ?_
      refine gf_8_46 hK rfl (List.mem_of_getElem? (i := 1) rfl) dX8_learn_106 ?_
      obtain ⟨rfl, rfl⟩ := so_inj hF
      exact aw_iret hK hR rfl dX8_learn_109
    · have hF := if_f hF hc
      refine aw_aload_n hK 0 rfl dX8_learn_46 ?_
      refine gf_8_43 hK rfl (105) rfl (List.mem_of_getElem? (i := 3) rfl) dX8_learn_47 ?_
      refine aw_bipush hK (8) rfl dX8_learn_50 ?_
      refine aw_aload_n hK 0 rfl dX8_learn_52 ?_
      refine gf_8_46 hK rfl (List.mem_of_getElem? (i := 1) rfl) dX8_learn_53 ?_
      refine aw_imul hK dX8_learn_56 ?_
      refine aw_iload_n hK 2 rfl dX8_learn_57 ?_
      refine aw_iadd hK dX8_learn_58 ?_
      refine aw_aload_n hK 0 rfl dX8_learn_59 ?_
      refine gf_8_1 hK rfl (71) rfl (List.mem_of_getElem? (i := 4) rfl) dX8_learn_60 ?_
      refine aw_iload_n hK 2 rfl dX8_learn_63 ?_
      obtain ⟨g9, hF⟩ := gd_some hF
      refine aw_iald hK rfl g9 dX8_learn_64 ?_
      obtain ⟨g10, hF⟩ := gd_some hF
      refine aw_iast hK rfl g10 dX8_learn_65 ?_
      obtain ⟨m11, hm11, hF⟩ := bnd_some hF
      refine aw_mm hm11 ?_
      obtain ⟨y12, hy12, hF⟩ := bnd_some hF
      refine aw_iinc hK (cz := 1) 2 [(2, q_i y12), (0, q_r 70), (1, q_i x1)] (by decide) rfl rfl hy12 rfl dX8_learn_66 ?_
      refine aw_goto hK 38 rfl dX8_learn_69 ?_
      refine aw_sub [1, 2, 0] (lv' := [(0, q_r 70), (1, q_i x1), (2, q_i y12)]) rfl ?_
      exact hrec_38 hF
def B_X8_learn_28 (N : Nat) (m : Mem) (x1 : Int32) (s0 : Int32) : Option (Int32 × Mem) :=
  cal (F_X8_isFine N m s0) fun r3 m2 =>
  if r3 = (0 : Int32) then (
    some ((0 : Int32), m2)
  ) else (
    L_X8_learn_38 N N m2 x1 (0 : Int32)
  )
set_option maxRecDepth 100000 in
set_option maxHeartbeats 4000000 in
theorem bk_X8_learn_28 {N : Nat} {K : KT} {m' : Mem} {r : Int32} (hK : KOK K cX8_learn 3 RX8 wsX8_learn 1 0 22) (hR : KRet K (some .int) (some r) m') {m : Mem} {x1 : Int32} {s0 : Int32} (hF : B_X8_learn_28 N m x1 s0 = some (r, m')) : AW K 0 28 [(0, q_r 70), (1, q_i x1)] [q_i s0, q_r 70] m := by
  unfold B_X8_learn_28 at hF
  obtain ⟨r3, m2, h1, hF⟩ := cal_some hF
  refine aw_cv hK 8 (as := [q_i s0]) (tr_X8_isFine h1) gX8_learn_X8_isFine rfl rfl rfl (by decide) (na := 1) (by decide +kernel) rfl ⟨by decide, by decide⟩ (Nat.zero_le _) (Nat.le_of_ble_eq_true rfl) dX8_learn_28 ?_
  refine aw_if_ne hK 36 rfl dX8_learn_31 (fun hc => ?_) (fun hc => ?_)
  · have hF := if_f hF hc
    refine aw_iconst hK (0) rfl dX8_learn_36 ?_
    refine aw_istore_n hK [(2, q_i (0 : Int32)), (0, q_r 70), (1, q_i x1)] (by decide) rfl dX8_learn_37 ?_
    refine aw_sub [1, 2, 0] (lv' := [(0, q_r 70), (1, q_i x1), (2, q_i (0 : Int32))]) rfl ?_
    exact lp_X8_learn_38 hK hR _ hF
  · have hF := if_t hF hc
    refine aw_iconst hK (0) rfl dX8_learn_34 ?_
    obtain ⟨rfl, rfl⟩ := so_inj hF
    exact aw_iret hK hR rfl dX8_learn_35
def F_X8_learn (N : Nat) (m : Mem) (x1 : Int32) : Option (Int32 × Mem) :=
  if (P_X8_isIn x1 (0 : Int32) (5 : Int32)) = (0 : Int32) then (
    B_X8_learn_28 N m x1 (1 : Int32)
  ) else (
    if (m 70 46) = (30 : Int32) then (
      B_X8_learn_28 N m x1 (2 : Int32)
    ) else (
      B_X8_learn_28 N m x1 (0 : Int32)
    )
  )
set_option maxRecDepth 100000 in
set_option maxHeartbeats 4000000 in
theorem tr_X8_learn {N : Nat} {m m' : Mem} {r : Int32} {x1 : Int32} (hF : F_X8_learn N m x1 = some (r, m')) : Tr yX8_learn wsX8_learn 1 22 [q_r 70, q_i x1] m (some r) m' := by
  refine tr_of (bytes := cX8_learn) (maxL := 3) (ret := (some .int)) (by decide) rfl (Nat.le_of_ble_eq_true rfl) (fun K hK hR => ?_)
  have hK : KOK K cX8_learn 3 RX8 wsX8_learn 1 0 22 := hK
  show AW K 0 0 [(0, q_r 70), (1, q_i x1)] [] m
  unfold F_X8_learn at hF
  refine aw_aload_n hK 0 rfl dX8_learn_0 ?_
  refine aw_iload_n hK 1 rfl dX8_learn_1 ?_
  refine aw_iconst hK (0) rfl dX8_learn_2 ?_
  refine aw_iconst hK (5) rfl dX8_learn_3 ?_
  refine aw_cs hK (as := [q_i x1, q_i (0 : Int32), q_i (5 : Int32)]) (trp_X8_isIn x1 (0 : Int32) (5 : Int32) _) gX8_learn_X8_isIn rfl (na := 3) (by decide +kernel) rfl ⟨by decide, by decide⟩ (Nat.zero_le _) (Nat.le_of_ble_eq_true rfl) dX8_learn_4 ?_
  refine aw_if_ne hK 14 rfl dX8_learn_7 (fun hc => ?_) (fun hc => ?_)
  · have hF := if_f hF hc
    refine aw_aload_n hK 0 rfl dX8_learn_14 ?_
    refine gf_8_46 hK rfl (List.mem_of_getElem? (i := 1) rfl) dX8_learn_15 ?_
    refine aw_bipush hK (30) rfl dX8_learn_18 ?_
    refine aw_icmp_ne hK 27 rfl dX8_learn_20 (fun hc => ?_) (fun hc => ?_)
    · have hF := if_f hF hc
      refine aw_iconst hK (0) rfl dX8_learn_27 ?_
      refine aw_sub [0, 1] (lv' := [(0, q_r 70), (1, q_i x1)]) rfl ?_
      exact bk_X8_learn_28 hK hR hF
    · have hF := if_t hF hc
      refine aw_iconst hK (2) rfl dX8_learn_23 ?_
      refine aw_goto hK 28 rfl dX8_learn_24 ?_
      refine aw_sub [0, 1] (lv' := [(0, q_r 70), (1, q_i x1)]) rfl ?_
      exact bk_X8_learn_28 hK hR hF
  · have hF := if_t hF hc
    refine aw_iconst hK (1) rfl dX8_learn_10 ?_
    refine aw_goto hK 28 rfl dX8_learn_11 ?_
    refine aw_sub [0, 1] (lv' := [(0, q_r 70), (1, q_i x1)]) rfl ?_
    exact bk_X8_learn_28 hK hR hF
def B_X8_inCommon_62 (N : Nat) (m : Mem) (x2 : Int32) : Option (Int32 × Mem) :=
  some (x2, m)
set_option maxRecDepth 100000 in
set_option maxHeartbeats 4000000 in
theorem bk_X8_inCommon_62 {N : Nat} {K : KT} {m' : Mem} {r : Int32} (hK : KOK K cX8_inCommon 3 RX8 wsX8_inCommon 0 0 0) (hR : KRet K (some .int) (some r) m') {m : Mem} {x2 : Int32} (hF : B_X8_inCommon_62 N m x2 = some (r, m')) : AW K 0 62 [(2, q_i x2)] [] m := by
  unfold B_X8_inCommon_62 at hF
  refine aw_iload_n hK 0 rfl dX8_inCommon_62 ?_
  obtain ⟨rfl, rfl⟩ := so_inj hF
  exact aw_iret hK hR rfl dX8_inCommon_63
def S_X8_inCommon_2 (N : Nat) (rec_2 : Mem → Int32 → Int32 → Option (Int32 × Mem)) (m : Mem) (x1 : Int32) (x2 : Int32) : Option (Int32 × Mem) :=
  if (m 70 2) ≤ x2 then (
    B_X8_inCommon_62 N m x2
  ) else (
    gd (inb x1 (alen 106)) <|
    if (m 106 (ix x1)) ≤ x2 then (
      B_X8_inCommon_62 N m x2
    ) else (
      gd (inb x1 (alen 106)) <|
      gd (inb (((((8 : Int32) * x1) + (m 106 (ix x1))) - (1 : Int32)) - x2) (alen 105)) <|
      gd (inb (((m 70 2) - (1 : Int32)) - x2) (alen 71)) <|
      if (m 105 (ix (((((8 : Int32) * x1) + (m 106 (ix x1))) - (1 : Int32)) - x2))) = (m 71 (ix (((m 70 2) - (1 : Int32)) - x2))) then (
        bnd (x2 + (1 : Int32)) fun y5 =>
        rec_2 m x1 y5
      ) else (
        B_X8_inCommon_62 N m x2
      )
    )
  )
def L_X8_inCommon_2 (N : Nat) : Nat → Mem → Int32 → Int32 → Option (Int32 × Mem)
  | 0 => fun _ _ _ => none
  | f + 1 => S_X8_inCommon_2 N (L_X8_inCommon_2 N f)
set_option maxRecDepth 100000 in
set_option maxHeartbeats 4000000 in
theorem lp_X8_inCommon_2 {N : Nat} {K : KT} {m' : Mem} {r : Int32} (hK : KOK K cX8_inCommon 3 RX8 wsX8_inCommon 0 0 0) (hR : KRet K (some .int) (some r) m') : ∀ (f : Nat) {m : Mem} {x1 : Int32} {x2 : Int32}, L_X8_inCommon_2 N f m x1 x2 = some (r, m') → AW K 0 2 [(0, q_r 70), (1, q_i x1), (2, q_i x2)] [] m := by
  intro f
  induction f with
  | zero => intro m x1 x2 hF; cases hF
  | succ f hrec_2 =>
    intro m x1 x2 hF
    have hF : S_X8_inCommon_2 N (L_X8_inCommon_2 N f) m x1 x2 = some (r, m') := hF
    unfold S_X8_inCommon_2 at hF
    refine aw_iload_n hK 2 rfl dX8_inCommon_2 ?_
    refine aw_aload_n hK 0 rfl dX8_inCommon_3 ?_
    refine gf_8_2 hK rfl (List.mem_of_getElem? (i := 1) rfl) dX8_inCommon_4 ?_
    refine aw_icmp_ge hK 62 rfl dX8_inCommon_7 (fun hc => ?_) (fun hc => ?_)
    · have hF := if_t hF hc
      refine aw_sub [2] (lv' := [(2, q_i x2)]) rfl ?_
      exact bk_X8_inCommon_62 hK hR hF
    · have hF := if_f hF hc
      refine aw_iload_n hK 2 rfl dX8_inCommon_10 ?_
      refine aw_aload_n hK 0 rfl dX8_inCommon_11 ?_
      refine gf_8_44 hK rfl (106) rfl (List.mem_of_getElem? (i := 2) rfl) dX8_inCommon_12 ?_
      refine aw_iload_n hK 1 rfl dX8_inCommon_15 ?_
      obtain ⟨g1, hF⟩ := gd_some hF
      refine aw_iald hK rfl g1 dX8_inCommon_16 ?_
      refine aw_icmp_ge hK 62 rfl dX8_inCommon_17 (fun hc => ?_) (fun hc => ?_)
      · have hF := if_t hF hc
        refine aw_sub [2] (lv' := [(2, q_i x2)]) rfl ?_
        exact bk_X8_inCommon_62 hK hR hF
      · have hF := if_f hF hc
        refine aw_aload_n hK 0 rfl dX8_inCommon_20 ?_
        refine gf_8_43 hK rfl (105) rfl (List.mem_of_getElem? (i := 3) rfl) dX8_inCommon_21 ?_
        refine aw_bipush hK (8) rfl dX8_inCommon_24 ?_
        refine aw_iload_n hK 1 rfl dX8_inCommon_26 ?_
        refine aw_imul hK dX8_inCommon_27 ?_
        refine aw_aload_n hK 0 rfl dX8_inCommon_28 ?_
        refine gf_8_44 hK rfl (106) rfl (List.mem_of_getElem? (i := 2) rfl) dX8_inCommon_29 ?_
        refine aw_iload_n hK 1 rfl dX8_inCommon_32 ?_
        obtain ⟨g2, hF⟩ := gd_some hF
        refine aw_iald hK rfl g2 dX8_inCommon_33 ?_
        refine aw_iadd hK dX8_inCommon_34 ?_
        refine aw_iconst hK (1) rfl dX8_inCommon_35 ?_
        refine aw_isub hK dX8_inCommon_36 ?_
        refine aw_iload_n hK 2 rfl dX8_inCommon_37 ?_
        refine aw_isub hK dX8_inCommon_38 ?_
        obtain ⟨g3, hF⟩ := gd_some hF
        refine aw_iald hK rfl g3 dX8_inCommon_39 ?_
        refine aw_aload_n hK 0 rfl dX8_inCommon_40 ?_
        refine gf_8_1 hK rfl (71) rfl (List.mem_of_getElem? (i := 4) rfl) dX8_inCommon_41 ?_
        refine aw_aload_n hK 0 rfl dX8_inCommon_44 ?_
        refine gf_8_2 hK rfl (List.mem_of_getElem? (i := 1) rfl) dX8_inCommon_45 ?_
        refine aw_iconst hK (1) rfl dX8_inCommon_48 ?_
        refine aw_isub hK dX8_inCommon_49 ?_
        refine aw_iload_n hK 2 rfl dX8_inCommon_50 ?_
        refine aw_isub hK dX8_inCommon_51 ?_
        obtain ⟨g4, hF⟩ := gd_some hF
        refine aw_iald hK rfl g4 dX8_inCommon_52 ?_
        refine aw_icmp_ne hK 62 rfl dX8_inCommon_53 (fun hc => ?_) (fun hc => ?_)
        · have hF := if_f hF hc
          refine aw_sub [2] (lv' := [(2, q_i x2)]) rfl ?_
          exact bk_X8_inCommon_62 hK hR hF
        · have hF := if_t hF hc
          obtain ⟨y5, hy5, hF⟩ := bnd_some hF
          refine aw_iinc hK (cz := 1) 2 [(2, q_i y5), (0, q_r 70), (1, q_i x1)] (by decide) rfl rfl hy5 rfl dX8_inCommon_56 ?_
          refine aw_goto hK 2 rfl dX8_inCommon_59 ?_
          refine aw_sub [1, 2, 0] (lv' := [(0, q_r 70), (1, q_i x1), (2, q_i y5)]) rfl ?_
          exact hrec_2 hF
def F_X8_inCommon (N : Nat) (m : Mem) (x1 : Int32) : Option (Int32 × Mem) :=
  L_X8_inCommon_2 N N m x1 (0 : Int32)
set_option maxRecDepth 100000 in
set_option maxHeartbeats 4000000 in
theorem tr_X8_inCommon {N : Nat} {m m' : Mem} {r : Int32} {x1 : Int32} (hF : F_X8_inCommon N m x1 = some (r, m')) : Tr yX8_inCommon wsX8_inCommon 0 0 [q_r 70, q_i x1] m (some r) m' := by
  refine tr_of (bytes := cX8_inCommon) (maxL := 3) (ret := (some .int)) (by decide) rfl (Nat.le_of_ble_eq_true rfl) (fun K hK hR => ?_)
  have hK : KOK K cX8_inCommon 3 RX8 wsX8_inCommon 0 0 0 := hK
  show AW K 0 0 [(0, q_r 70), (1, q_i x1)] [] m
  unfold F_X8_inCommon at hF
  refine aw_iconst hK (0) rfl dX8_inCommon_0 ?_
  refine aw_istore_n hK [(2, q_i (0 : Int32)), (0, q_r 70), (1, q_i x1)] (by decide) rfl dX8_inCommon_1 ?_
  refine aw_sub [1, 2, 0] (lv' := [(0, q_r 70), (1, q_i x1), (2, q_i (0 : Int32))]) rfl ?_
  exact lp_X8_inCommon_2 hK hR _ hF
def B_X8_guess_140 (N : Nat) (rec_55 : Mem → Int32 → Int32 → Int32 → Int32 → Option (Int32 × Mem)) (m : Mem) (x1 : Int32) (x3 : Int32) (x4 : Int32) (s0 : Int32) : Option (Int32 × Mem) :=
  bnd (x4 + (1 : Int32)) fun y15 =>
  rec_55 m x1 s0 x3 y15
set_option maxRecDepth 100000 in
set_option maxHeartbeats 4000000 in
theorem bk_X8_guess_140 {N : Nat} {K : KT} {m' : Mem} {rec_55 : Mem → Int32 → Int32 → Int32 → Int32 → Option (Int32 × Mem)} {r : Int32} (hK : KOK K cX8_guess 7 RX8 wsX8_guess 1 0 22) (hR : KRet K (some .int) (some r) m') (hrec_55 : ∀ {m : Mem} {x1 : Int32} {x2 : Int32} {x3 : Int32} {x4 : Int32}, rec_55 m x1 x2 x3 x4 = some (r, m') → AW K 0 55 [(0, q_r 70), (1, q_i x1), (2, q_i x2), (3, q_i x3), (4, q_i x4)] [] m) {m : Mem} {x1 : Int32} {x3 : Int32} {x4 : Int32} {s0 : Int32} (hF : B_X8_guess_140 N rec_55 m x1 x3 x4 s0 = some (r, m')) : AW K 0 140 [(0, q_r 70), (1, q_i x1), (3, q_i x3), (4, q_i x4)] [q_i s0] m := by
  unfold B_X8_guess_140 at hF
  refine aw_istore_n hK [(2, q_i s0), (0, q_r 70), (1, q_i x1), (3, q_i x3), (4, q_i x4)] (by decide) rfl dX8_guess_140 ?_
  obtain ⟨y15, hy15, hF⟩ := bnd_some hF
  refine aw_iinc hK (cz := 1) 4 [(4, q_i y15), (2, q_i s0), (0, q_r 70), (1, q_i x1), (3, q_i x3)] (by decide) rfl rfl hy15 rfl dX8_guess_141 ?_
  refine aw_goto hK 55 rfl dX8_guess_144 ?_
  refine aw_sub [2, 3, 1, 4, 0] (lv' := [(0, q_r 70), (1, q_i x1), (2, q_i s0), (3, q_i x3), (4, q_i y15)]) rfl ?_
  exact hrec_55 hF
def B_X8_guess_127 (N : Nat) (rec_55 : Mem → Int32 → Int32 → Int32 → Int32 → Option (Int32 × Mem)) (m : Mem) (x1 : Int32) (x2 : Int32) (x4 : Int32) (x5 : Int32) (s0 : Int32) : Option (Int32 × Mem) :=
  if x5 ≤ x2 then (
    B_X8_guess_140 N rec_55 m x1 s0 x4 x2
  ) else (
    B_X8_guess_140 N rec_55 m x1 s0 x4 x5
  )
set_option maxRecDepth 100000 in
set_option maxHeartbeats 4000000 in
theorem bk_X8_guess_127 {N : Nat} {K : KT} {m' : Mem} {rec_55 : Mem → Int32 → Int32 → Int32 → Int32 → Option (Int32 × Mem)} {r : Int32} (hK : KOK K cX8_guess 7 RX8 wsX8_guess 1 0 22) (hR : KRet K (some .int) (some r) m') (hrec_55 : ∀ {m : Mem} {x1 : Int32} {x2 : Int32} {x3 : Int32} {x4 : Int32}, rec_55 m x1 x2 x3 x4 = some (r, m') → AW K 0 55 [(0, q_r 70), (1, q_i x1), (2, q_i x2), (3, q_i x3), (4, q_i x4)] [] m) {m : Mem} {x1 : Int32} {x2 : Int32} {x4 : Int32} {x5 : Int32} {s0 : Int32} (hF : B_X8_guess_127 N rec_55 m x1 x2 x4 x5 s0 = some (r, m')) : AW K 0 127 [(0, q_r 70), (1, q_i x1), (2, q_i x2), (4, q_i x4), (5, q_i x5)] [q_i s0] m := by
  unfold B_X8_guess_127 at hF
  refine aw_istore_n hK [(3, q_i s0), (0, q_r 70), (1, q_i x1), (2, q_i x2), (4, q_i x4), (5, q_i x5)] (by decide) rfl dX8_guess_127 ?_
  refine aw_iload hK 5 rfl dX8_guess_128 ?_
  refine aw_iload_n hK 3 rfl dX8_guess_130 ?_
  refine aw_icmp_le hK 139 rfl dX8_guess_131 (fun hc => ?_) (fun hc => ?_)
  · have hF := if_t hF hc
    refine aw_iload_n hK 3 rfl dX8_guess_139 ?_
    refine aw_sub [1, 2, 0, 4] (lv' := [(0, q_r 70), (1, q_i x1), (3, q_i s0), (4, q_i x4)]) rfl ?_
    exact bk_X8_guess_140 hK hR hrec_55 hF
  · have hF := if_f hF hc
    refine aw_iload hK 5 rfl dX8_guess_134 ?_
    refine aw_goto hK 140 rfl dX8_guess_136 ?_
    refine aw_sub [1, 2, 0, 4] (lv' := [(0, q_r 70), (1, q_i x1), (3, q_i s0), (4, q_i x4)]) rfl ?_
    exact bk_X8_guess_140 hK hR hrec_55 hF
def B_X8_guess_106 (N : Nat) (rec_55 : Mem → Int32 → Int32 → Int32 → Int32 → Option (Int32 × Mem)) (rec_68 : Mem → Int32 → Int32 → Int32 → Int32 → Int32 → Int32 → Option (Int32 × Mem)) (m : Mem) (x1 : Int32) (x2 : Int32) (x3 : Int32) (x4 : Int32) (x6 : Int32) (s0 : Int32) (s1 : Int32) : Option (Int32 × Mem) :=
  bnd (s1 + s0) fun y13 =>
  bnd (x6 + (1 : Int32)) fun y14 =>
  rec_68 m x1 x2 x3 x4 y13 y14
set_option maxRecDepth 100000 in
set_option maxHeartbeats 4000000 in
theorem bk_X8_guess_106 {N : Nat} {K : KT} {m' : Mem} {rec_55 : Mem → Int32 → Int32 → Int32 → Int32 → Option (Int32 × Mem)} {rec_68 : Mem → Int32 → Int32 → Int32 → Int32 → Int32 → Int32 → Option (Int32 × Mem)} {r : Int32} (hK : KOK K cX8_guess 7 RX8 wsX8_guess 1 0 22) (hR : KRet K (some .int) (some r) m') (hrec_55 : ∀ {m : Mem} {x1 : Int32} {x2 : Int32} {x3 : Int32} {x4 : Int32}, rec_55 m x1 x2 x3 x4 = some (r, m') → AW K 0 55 [(0, q_r 70), (1, q_i x1), (2, q_i x2), (3, q_i x3), (4, q_i x4)] [] m) (hrec_68 : ∀ {m : Mem} {x1 : Int32} {x2 : Int32} {x3 : Int32} {x4 : Int32} {x5 : Int32} {x6 : Int32}, rec_68 m x1 x2 x3 x4 x5 x6 = some (r, m') → AW K 0 68 [(0, q_r 70), (1, q_i x1), (2, q_i x2), (3, q_i x3), (4, q_i x4), (5, q_i x5), (6, q_i x6)] [] m) {m : Mem} {x1 : Int32} {x2 : Int32} {x3 : Int32} {x4 : Int32} {x6 : Int32} {s0 : Int32} {s1 : Int32} (hF : B_X8_guess_106 N rec_55 rec_68 m x1 x2 x3 x4 x6 s0 s1 = some (r, m')) : AW K 0 106 [(0, q_r 70), (1, q_i x1), (2, q_i x2), (3, q_i x3), (4, q_i x4), (6, q_i x6)] [q_i s0, q_i s1] m := by
  unfold B_X8_guess_106 at hF
  refine aw_iadd hK dX8_guess_106 ?_
  obtain ⟨y13, hy13, hF⟩ := bnd_some hF
  refine aw_nm hy13 ?_
  refine aw_istore hK [(5, q_i y13), (0, q_r 70), (1, q_i x1), (2, q_i x2), (3, q_i x3), (4, q_i x4), (6, q_i x6)] (by decide) rfl dX8_guess_107 ?_
  obtain ⟨y14, hy14, hF⟩ := bnd_some hF
  refine aw_iinc hK (cz := 1) 6 [(6, q_i y14), (5, q_i y13), (0, q_r 70), (1, q_i x1), (2, q_i x2), (3, q_i x3), (4, q_i x4)] (by decide) rfl rfl hy14 rfl dX8_guess_109 ?_
  refine aw_goto hK 68 rfl dX8_guess_112 ?_
  refine aw_sub [2, 3, 4, 5, 6, 1, 0] (lv' := [(0, q_r 70), (1, q_i x1), (2, q_i x2), (3, q_i x3), (4, q_i x4), (5, q_i y13), (6, q_i y14)]) rfl ?_
  exact hrec_68 hF
def B_X8_guess_105 (N : Nat) (rec_55 : Mem → Int32 → Int32 → Int32 → Int32 → Option (Int32 × Mem)) (rec_68 : Mem → Int32 → Int32 → Int32 → Int32 → Int32 → Int32 → Option (Int32 × Mem)) (m : Mem) (x1 : Int32) (x2 : Int32) (x3 : Int32) (x4 : Int32) (x6 : Int32) (s0 : Int32) : Option (Int32 × Mem) :=
  B_X8_guess_106 N rec_55 rec_68 m x1 x2 x3 x4 x6 (0 : Int32) s0
set_option maxRecDepth 100000 in
set_option maxHeartbeats 4000000 in
theorem bk_X8_guess_105 {N : Nat} {K : KT} {m' : Mem} {rec_55 : Mem → Int32 → Int32 → Int32 → Int32 → Option (Int32 × Mem)} {rec_68 : Mem → Int32 → Int32 → Int32 → Int32 → Int32 → Int32 → Option (Int32 × Mem)} {r : Int32} (hK : KOK K cX8_guess 7 RX8 wsX8_guess 1 0 22) (hR : KRet K (some .int) (some r) m') (hrec_55 : ∀ {m : Mem} {x1 : Int32} {x2 : Int32} {x3 : Int32} {x4 : Int32}, rec_55 m x1 x2 x3 x4 = some (r, m') → AW K 0 55 [(0, q_r 70), (1, q_i x1), (2, q_i x2), (3, q_i x3), (4, q_i x4)] [] m) (hrec_68 : ∀ {m : Mem} {x1 : Int32} {x2 : Int32} {x3 : Int32} {x4 : Int32} {x5 : Int32} {x6 : Int32}, rec_68 m x1 x2 x3 x4 x5 x6 = some (r, m') → AW K 0 68 [(0, q_r 70), (1, q_i x1), (2, q_i x2), (3, q_i x3), (4, q_i x4), (5, q_i x5), (6, q_i x6)] [] m) {m : Mem} {x1 : Int32} {x2 : Int32} {x3 : Int32} {x4 : Int32} {x6 : Int32} {s0 : Int32} (hF : B_X8_guess_105 N rec_55 rec_68 m x1 x2 x3 x4 x6 s0 = some (r, m')) : AW K 0 105 [(0, q_r 70), (1, q_i x1), (2, q_i x2), (3, q_i x3), (4, q_i x4), (6, q_i x6)] [q_i s0] m := by
  unfold B_X8_guess_105 at hF
  refine aw_iconst hK (0) rfl dX8_guess_105 ?_
  refine aw_sub [0, 1, 2, 3, 4, 5] (lv' := [(0, q_r 70), (1, q_i x1), (2, q_i x2), (3, q_i x3), (4, q_i x4), (6, q_i x6)]) rfl ?_
  exact bk_X8_guess_106 hK hR hrec_55 hrec_68 hF
def S_X8_guess_68 (N : Nat) (rec_55 : Mem → Int32 → Int32 → Int32 → Int32 → Option (Int32 × Mem)) (rec_68 : Mem → Int32 → Int32 → Int32 → Int32 → Int32 → Int32 → Option (Int32 × Mem)) (m : Mem) (x1 : Int32) (x2 : Int32) (x3 : Int32) (x4 : Int32) (x5 : Int32) (x6 : Int32) : Option (Int32 × Mem) :=
  if (m 70 46) ≤ x6 then (
    if x5 ≤ x2 then (
      B_X8_guess_127 N rec_55 m x1 x2 x4 x5 x3
    ) else (
      B_X8_guess_127 N rec_55 m x1 x2 x4 x5 x4
    )
  ) else (
    gd (inb x6 (alen 107)) <|
    if (m 107 (ix x6)) = x4 then (
      cal (F_X8_inCommon N m x6) fun r12 m11 =>
      if r12 = x1 then (
        B_X8_guess_106 N rec_55 rec_68 m11 x1 x2 x3 x4 x6 (1 : Int32) x5
      ) else (
        B_X8_guess_105 N rec_55 rec_68 m11 x1 x2 x3 x4 x6 x5
      )
    ) else (
      B_X8_guess_105 N rec_55 rec_68 m x1 x2 x3 x4 x6 x5
    )
  )
def L_X8_guess_68 (N : Nat) (rec_55 : Mem → Int32 → Int32 → Int32 → Int32 → Option (Int32 × Mem)) : Nat → Mem → Int32 → Int32 → Int32 → Int32 → Int32 → Int32 → Option (Int32 × Mem)
  | 0 => fun _ _ _ _ _ _ _ => none
  | f + 1 => S_X8_guess_68 N rec_55 (L_X8_guess_68 N rec_55 f)
set_option maxRecDepth 100000 in
set_option maxHeartbeats 4000000 in
theorem lp_X8_guess_68 {N : Nat} {K : KT} {m' : Mem} {rec_55 : Mem → Int32 → Int32 → Int32 → Int32 → Option (Int32 × Mem)} {r : Int32} (hK : KOK K cX8_guess 7 RX8 wsX8_guess 1 0 22) (hR : KRet K (some .int) (some r) m') (hrec_55 : ∀ {m : Mem} {x1 : Int32} {x2 : Int32} {x3 : Int32} {x4 : Int32}, rec_55 m x1 x2 x3 x4 = some (r, m') → AW K 0 55 [(0, q_r 70), (1, q_i x1), (2, q_i x2), (3, q_i x3), (4, q_i x4)] [] m) : ∀ (f : Nat) {m : Mem} {x1 : Int32} {x2 : Int32} {x3 : Int32} {x4 : Int32} {x5 : Int32} {x6 : Int32}, L_X8_guess_68 N rec_55 f m x1 x2 x3 x4 x5 x6 = some (r, m') → AW K 0 68 [(0, q_r 70), (1, q_i x1), (2, q_i x2), (3, q_i x3), (4, q_i x4), (5, q_i x5), (6, q_i x6)] [] m := by
  intro f
  induction f with
  | zero => intro m x1 x2 x3 x4 x5 x6 hF; cases hF
  | succ f hrec_68 =>
    intro m x1 x2 x3 x4 x5 x6 hF
    have hF : S_X8_guess_68 N rec_55 (L_X8_guess_68 N rec_55 f) m x1 x2 x3 x4 x5 x6 = some (r, m') := hF
    unfold S_X8_guess_68 at hF
    refine aw_iload hK 6 rfl dX8_guess_68 ?_
    refine aw_aload_n hK 0 rfl dX8_guess_70 ?_
    refine gf_8_46 hK rfl (List.mem_of_getElem? (i := 2) rfl) dX8_guess_71 ?_
    refine aw_icmp_ge hK 115 rfl dX8_guess_74 (fun hc => ?_) (fun hc => ?_)
    · have hF := if_t hF hc
      refine aw_iload hK 5 rfl dX8_guess_115 ?_
      refine aw_iload_n hK 2 rfl dX8_guess_117 ?_
      refine aw_icmp_le hK 126 rfl dX8_guess_118 (fun hc => ?_) (fun hc => ?_)
      · have hF := if_t hF hc
        refine aw_iload_n hK 3 rfl dX8_guess_126 ?_
        refine aw_sub [0, 1, 2, 4, 5] (lv' := [(0, q_r 70), (1, q_i x1), (2, q_i x2), (4, q_i x4), (5, q_i x5)]) rfl ?_
        exact bk_X8_guess_127 hK hR hrec_55 hF
      · have hF := if_f hF hc
        refine aw_iload hK 4 rfl dX8_guess_121 ?_
        refine aw_goto hK 127 rfl dX8_guess_123 ?_
        refine aw_sub [0, 1, 2, 4, 5] (lv' := [(0, q_r 70), (1, q_i x1), (2, q_i x2), (4, q_i x4), (5, q_i x5)]) rfl ?_
        exact bk_X8_guess_127 hK hR hrec_55 hF
    · have hF := if_f hF hc
      refine aw_iload hK 5 rfl dX8_guess_77 ?_
      refine aw_aload_n hK 0 rfl dX8_guess_79 ?_
      refine gf_8_45 hK rfl (107) rfl (List.mem_of_getElem? (i := 3) rfl) dX8_guess_80 ?_
      refine aw_iload hK 6 rfl dX8_guess_83 ?_
      obtain ⟨g9, hF⟩ := gd_some hF
      refine aw_iald hK rfl g9 dX8_guess_85 ?_
      refine aw_iload hK 4 rfl dX8_guess_86 ?_
      refine aw_icmp_ne hK 105 rfl dX8_guess_88 (fun hc => ?_) (fun hc => ?_)
      · have hF := if_f hF hc
        refine aw_sub [0, 1, 2, 3, 4, 6] (lv' := [(0, q_r 70), (1, q_i x1), (2, q_i x2), (3, q_i x3), (4, q_i x4), (6, q_i x6)]) rfl ?_
        exact bk_X8_guess_105 hK hR hrec_55 hrec_68 hF
      · have hF := if_t hF hc
        refine aw_aload_n hK 0 rfl dX8_guess_91 ?_
        refine aw_iload hK 6 rfl dX8_guess_92 ?_
        obtain ⟨r12, m11, h10, hF⟩ := cal_some hF
        refine aw_cv hK 8 (as := [q_i x6]) (tr_X8_inCommon h10) gX8_guess_X8_inCommon rfl rfl rfl (by decide) (na := 1) (by decide +kernel) rfl ⟨by decide, by decide⟩ (Nat.zero_le _) (Nat.le_of_ble_eq_true rfl) dX8_guess_94 ?_
        refine aw_iload_n hK 1 rfl dX8_guess_97 ?_
        refine aw_icmp_ne hK 105 rfl dX8_guess_98 (fun hc => ?_) (fun hc => ?_)
        · have hF := if_f hF hc
          refine aw_sub [0, 1, 2, 3, 4, 6] (lv' := [(0, q_r 70), (1, q_i x1), (2, q_i x2), (3, q_i x3), (4, q_i x4), (6, q_i x6)]) rfl ?_
          exact bk_X8_guess_105 hK hR hrec_55 hrec_68 hF
        · have hF := if_t hF hc
          refine aw_iconst hK (1) rfl dX8_guess_101 ?_
          refine aw_goto hK 106 rfl dX8_guess_102 ?_
          refine aw_sub [0, 1, 2, 3, 4, 6] (lv' := [(0, q_r 70), (1, q_i x1), (2, q_i x2), (3, q_i x3), (4, q_i x4), (6, q_i x6)]) rfl ?_
          exact bk_X8_guess_106 hK hR hrec_55 hrec_68 hF
def S_X8_guess_55 (N : Nat) (rec_55 : Mem → Int32 → Int32 → Int32 → Int32 → Option (Int32 × Mem)) (m : Mem) (x1 : Int32) (x2 : Int32) (x3 : Int32) (x4 : Int32) : Option (Int32 × Mem) :=
  if (6 : Int32) ≤ x4 then (
    some ((((100 : Int32) * x1) + ((10 : Int32) * x3)) + (P_X8_lesser x2 (9 : Int32)), m)
  ) else (
    L_X8_guess_68 N rec_55 N m x1 x2 x3 x4 (0 : Int32) (0 : Int32)
  )
def L_X8_guess_55 (N : Nat) : Nat → Mem → Int32 → Int32 → Int32 → Int32 → Option (Int32 × Mem)
  | 0 => fun _ _ _ _ _ => none
  | f + 1 => S_X8_guess_55 N (L_X8_guess_55 N f)
set_option maxRecDepth 100000 in
set_option maxHeartbeats 4000000 in
theorem lp_X8_guess_55 {N : Nat} {K : KT} {m' : Mem} {r : Int32} (hK : KOK K cX8_guess 7 RX8 wsX8_guess 1 0 22) (hR : KRet K (some .int) (some r) m') : ∀ (f : Nat) {m : Mem} {x1 : Int32} {x2 : Int32} {x3 : Int32} {x4 : Int32}, L_X8_guess_55 N f m x1 x2 x3 x4 = some (r, m') → AW K 0 55 [(0, q_r 70), (1, q_i x1), (2, q_i x2), (3, q_i x3), (4, q_i x4)] [] m := by
  intro f
  induction f with
  | zero => intro m x1 x2 x3 x4 hF; cases hF
  | succ f hrec_55 =>
    intro m x1 x2 x3 x4 hF
    have hF : S_X8_guess_55 N (L_X8_guess_55 N f) m x1 x2 x3 x4 = some (r, m') := hF
    unfold S_X8_guess_55 at hF
    refine aw_iload hK 4 rfl dX8_guess_55 ?_
    refine aw_bipush hK (6) rfl dX8_guess_57 ?_
    refine aw_icmp_ge hK 147 rfl dX8_guess_59 (fun hc => ?_) (fun hc => ?_)
    · have hF := if_t hF hc
      refine aw_bipush hK (100) rfl dX8_guess_147 ?_
      refine aw_iload_n hK 1 rfl dX8_guess_149 ?_
      refine aw_imul hK dX8_guess_150 ?_
      refine aw_bipush hK (10) rfl dX8_guess_151 ?_
      refine aw_iload_n hK 3 rfl dX8_guess_153 ?_
      refine aw_imul hK dX8_guess_154 ?_
      refine aw_iadd hK dX8_guess_155 ?_
      refine aw_iload_n hK 2 rfl dX8_guess_156 ?_
      refine aw_bipush hK (9) rfl dX8_guess_157 ?_
      refine aw_cs hK (as := [q_i x2, q_i (9 : Int32)]) (trp_X8_lesser x2 (9 : Int32) _) gX8_guess_X8_lesser rfl (na := 2) (by decide +kernel) rfl ⟨by decide, by decide⟩ (Nat.zero_le _) (Nat.le_of_ble_eq_true rfl) dX8_guess_159 ?_
      refine aw_iadd hK dX8_guess_162 ?_
      obtain ⟨rfl, rfl⟩ := so_inj hF
      exact aw_iret hK hR rfl dX8_guess_163
    · have hF := if_f hF hc
      refine aw_iconst hK (0) rfl dX8_guess_62 ?_
      refine aw_istore hK [(5, q_i (0 : Int32)), (0, q_r 70), (1, q_i x1), (2, q_i x2), (3, q_i x3), (4, q_i x4)] (by decide) rfl dX8_guess_63 ?_
      refine aw_iconst hK (0) rfl dX8_guess_65 ?_
      refine aw_istore hK [(6, q_i (0 : Int32)), (5, q_i (0 : Int32)), (0, q_r 70), (1, q_i x1), (2, q_i x2), (3, q_i x3), (4, q_i x4)] (by decide) rfl dX8_guess_66 ?_
      refine aw_sub [2, 3, 4, 5, 6, 1, 0] (lv' := [(0, q_r 70), (1, q_i x1), (2, q_i x2), (3, q_i x3), (4, q_i x4), (5, q_i (0 : Int32)), (6, q_i (0 : Int32))]) rfl ?_
      exact lp_X8_guess_68 hK hR hrec_55 _ hF
def B_X8_guess_35 (N : Nat) (rec_9 : Mem → Int32 → Int32 → Option (Int32 × Mem)) (m : Mem) (x2 : Int32) (s0 : Int32) : Option (Int32 × Mem) :=
  bnd (x2 + (1 : Int32)) fun y8 =>
  rec_9 m s0 y8
set_option maxRecDepth 100000 in
set_option maxHeartbeats 4000000 in
theorem bk_X8_guess_35 {N : Nat} {K : KT} {m' : Mem} {rec_9 : Mem → Int32 → Int32 → Option (Int32 × Mem)} {r : Int32} (hK : KOK K cX8_guess 7 RX8 wsX8_guess 1 0 22) (hR : KRet K (some .int) (some r) m') (hrec_9 : ∀ {m : Mem} {x1 : Int32} {x2 : Int32}, rec_9 m x1 x2 = some (r, m') → AW K 0 9 [(0, q_r 70), (1, q_i x1), (2, q_i x2)] [] m) {m : Mem} {x2 : Int32} {s0 : Int32} (hF : B_X8_guess_35 N rec_9 m x2 s0 = some (r, m')) : AW K 0 35 [(0, q_r 70), (2, q_i x2)] [q_i s0] m := by
  unfold B_X8_guess_35 at hF
  refine aw_istore_n hK [(1, q_i s0), (0, q_r 70), (2, q_i x2)] (by decide) rfl dX8_guess_35 ?_
  obtain ⟨y8, hy8, hF⟩ := bnd_some hF
  refine aw_iinc hK (cz := 1) 2 [(2, q_i y8), (1, q_i s0), (0, q_r 70)] (by decide) rfl rfl hy8 rfl dX8_guess_36 ?_
  refine aw_goto hK 9 rfl dX8_guess_39 ?_
  refine aw_sub [2, 1, 0] (lv' := [(0, q_r 70), (1, q_i s0), (2, q_i y8)]) rfl ?_
  exact hrec_9 hF
def S_X8_guess_9 (N : Nat) (rec_9 : Mem → Int32 → Int32 → Option (Int32 × Mem)) (m : Mem) (x1 : Int32) (x2 : Int32) : Option (Int32 × Mem) :=
  if (m 70 46) ≤ x2 then (
    if x1 = (0 : Int32) then (
      some ((-1 : Int32), m)
    ) else (
      L_X8_guess_55 N N m x1 (0 : Int32) (0 : Int32) (0 : Int32)
    )
  ) else (
    cal (F_X8_inCommon N m x2) fun r4 m3 =>
    if r4 ≤ x1 then (
      B_X8_guess_35 N rec_9 m3 x2 x1
    ) else (
      cal (F_X8_inCommon N m3 x2) fun r7 m6 =>
      B_X8_guess_35 N rec_9 m6 x2 r7
    )
  )
def L_X8_guess_9 (N : Nat) : Nat → Mem → Int32 → Int32 → Option (Int32 × Mem)
  | 0 => fun _ _ _ => none
  | f + 1 => S_X8_guess_9 N (L_X8_guess_9 N f)
set_option maxRecDepth 100000 in
set_option maxHeartbeats 4000000 in
theorem lp_X8_guess_9 {N : Nat} {K : KT} {m' : Mem} {r : Int32} (hK : KOK K cX8_guess 7 RX8 wsX8_guess 1 0 22) (hR : KRet K (some .int) (some r) m') : ∀ (f : Nat) {m : Mem} {x1 : Int32} {x2 : Int32}, L_X8_guess_9 N f m x1 x2 = some (r, m') → AW K 0 9 [(0, q_r 70), (1, q_i x1), (2, q_i x2)] [] m := by
  intro f
  induction f with
  | zero => intro m x1 x2 hF; cases hF
  | succ f hrec_9 =>
    intro m x1 x2 hF
    have hF : S_X8_guess_9 N (L_X8_guess_9 N f) m x1 x2 = some (r, m') := hF
    unfold S_X8_guess_9 at hF
    refine aw_iload_n hK 2 rfl dX8_guess_9 ?_
    refine aw_aload_n hK 0 rfl dX8_guess_10 ?_
    refine gf_8_46 hK rfl (List.mem_of_getElem? (i := 2) rfl) dX8_guess_11 ?_
    refine aw_icmp_ge hK 42 rfl dX8_guess_14 (fun hc => ?_) (fun hc => ?_)
    · have hF := if_t hF hc
      refine aw_iload_n hK 1 rfl dX8_guess_42 ?_
      refine aw_if_ne hK 48 rfl dX8_guess_43 (fun hc => ?_) (fun hc => ?_)
      · have hF := if_f hF hc
        refine aw_iconst hK (0) rfl dX8_guess_48 ?_
        refine aw_istore_n hK [(2, q_i (0 : Int32)), (0, q_r 70), (1, q_i x1)] (by decide) rfl dX8_guess_49 ?_
        refine aw_iconst hK (0) rfl dX8_guess_50 ?_
        refine aw_istore_n hK [(3, q_i (0 : Int32)), (2, q_i (0 : Int32)), (0, q_r 70), (1, q_i x1)] (by decide) rfl dX8_guess_51 ?_
        refine aw_iconst hK (0) rfl dX8_guess_52 ?_
        refine aw_istore hK [(4, q_i (0 : Int32)), (3, q_i (0 : Int32)), (2, q_i (0 : Int32)), (0, q_r 70), (1, q_i x1)] (by decide) rfl dX8_guess_53 ?_
        refine aw_sub [3, 4, 2, 1, 0] (lv' := [(0, q_r 70), (1, q_i x1), (2, q_i (0 : Int32)), (3, q_i (0 : Int32)), (4, q_i (0 : Int32))]) rfl ?_
        exact lp_X8_guess_55 hK hR _ hF
      · have hF := if_t hF hc
        refine aw_iconst hK (-1) rfl dX8_guess_46 ?_
        obtain ⟨rfl, rfl⟩ := so_inj hF
        exact aw_iret hK hR rfl dX8_guess_47
    · have hF := if_f hF hc
      refine aw_aload_n hK 0 rfl dX8_guess_17 ?_
      refine aw_iload_n hK 2 rfl dX8_guess_18 ?_
      obtain ⟨r4, m3, h2, hF⟩ := cal_some hF
      refine aw_cv hK 8 (as := [q_i x2]) (tr_X8_inCommon h2) gX8_guess_X8_inCommon rfl rfl rfl (by decide) (na := 1) (by decide +kernel) rfl ⟨by decide, by decide⟩ (Nat.zero_le _) (Nat.le_of_ble_eq_true rfl) dX8_guess_19 ?_
      refine aw_iload_n hK 1 rfl dX8_guess_22 ?_
      refine aw_icmp_le hK 34 rfl dX8_guess_23 (fun hc => ?_) (fun hc => ?_)
      · have hF := if_t hF hc
        refine aw_iload_n hK 1 rfl dX8_guess_34 ?_
        refine aw_sub [0, 2] (lv' := [(0, q_r 70), (2, q_i x2)]) rfl ?_
        exact bk_X8_guess_35 hK hR hrec_9 hF
      · have hF := if_f hF hc
        refine aw_aload_n hK 0 rfl dX8_guess_26 ?_
        refine aw_iload_n hK 2 rfl dX8_guess_27 ?_
        obtain ⟨r7, m6, h5, hF⟩ := cal_some hF
        refine aw_cv hK 8 (as := [q_i x2]) (tr_X8_inCommon h5) gX8_guess_X8_inCommon rfl rfl rfl (by decide) (na := 1) (by decide +kernel) rfl ⟨by decide, by decide⟩ (Nat.zero_le _) (Nat.le_of_ble_eq_true rfl) dX8_guess_28 ?_
        refine aw_goto hK 35 rfl dX8_guess_31 ?_
        refine aw_sub [0, 2] (lv' := [(0, q_r 70), (2, q_i x2)]) rfl ?_
        exact bk_X8_guess_35 hK hR hrec_9 hF
def F_X8_guess (N : Nat) (m : Mem) : Option (Int32 × Mem) :=
  bnd (mup m 70 0 (0 : Int32)) fun m1 =>
  L_X8_guess_9 N N m1 (0 : Int32) (0 : Int32)
set_option maxRecDepth 100000 in
set_option maxHeartbeats 4000000 in
theorem tr_X8_guess {N : Nat} {m m' : Mem} {r : Int32} (hF : F_X8_guess N m = some (r, m')) : Tr yX8_guess wsX8_guess 1 22 [q_r 70] m (some r) m' := by
  refine tr_of (bytes := cX8_guess) (maxL := 7) (ret := (some .int)) (by decide) rfl (Nat.le_of_ble_eq_true rfl) (fun K hK hR => ?_)
  have hK : KOK K cX8_guess 7 RX8 wsX8_guess 1 0 22 := hK
  show AW K 0 0 [(0, q_r 70)] [] m
  unfold F_X8_guess at hF
  refine aw_aload_n hK 0 rfl dX8_guess_0 ?_
  refine aw_iconst hK (0) rfl dX8_guess_1 ?_
  refine pf_8_0 hK rfl (List.mem_of_getElem? (i := 1) rfl) dX8_guess_2 ?_
  obtain ⟨m1, hm1, hF⟩ := bnd_some hF
  refine aw_mm hm1 ?_
  refine aw_iconst hK (0) rfl dX8_guess_5 ?_
  refine aw_istore_n hK [(1, q_i (0 : Int32)), (0, q_r 70)] (by decide) rfl dX8_guess_6 ?_
  refine aw_iconst hK (0) rfl dX8_guess_7 ?_
  refine aw_istore_n hK [(2, q_i (0 : Int32)), (1, q_i (0 : Int32)), (0, q_r 70)] (by decide) rfl dX8_guess_8 ?_
  refine aw_sub [2, 1, 0] (lv' := [(0, q_r 70), (1, q_i (0 : Int32)), (2, q_i (0 : Int32))]) rfl ?_
  exact lp_X8_guess_9 hK hR _ hF
