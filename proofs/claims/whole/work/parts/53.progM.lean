def S_X8_sides_76 (N : Nat) (rec_76 : Mem → Int32 → Int32 → Option (Int32 × Mem)) (m : Mem) (x1 : Int32) (x3 : Int32) : Option (Int32 × Mem) :=
  gd (inb x1 (alen 72)) <|
  if (m 72 (ix x1)) ≤ x3 then (
    cal (F_X8_trims N m (0 : Int32)) fun r15 m14 =>
    gd (isb r15) <|
    some (r15, m14)
  ) else (
    cal (F_X8_isEndOf N m x1 x3) fun r19 m18 =>
    gd (inb x3 (alen 82)) <|
    gd (isb r19) <|
    bnd (mup m18 82 (ix x3) r19) fun m22 =>
    bnd (x3 + (1 : Int32)) fun y23 =>
    rec_76 m22 x1 y23
  )
def L_X8_sides_76 (N : Nat) : Nat → Mem → Int32 → Int32 → Option (Int32 × Mem)
  | 0 => fun _ _ _ => none
  | f + 1 => S_X8_sides_76 N (L_X8_sides_76 N f)
set_option maxRecDepth 100000 in
set_option maxHeartbeats 4000000 in
theorem lp_X8_sides_76 {N : Nat} {K : KT} {m' : Mem} {r : Int32} (hK : KOK K cX8_sides 5 RX8 wsX8_sides 3 0 70) (hR : KRet K (some .boolean) (some r) m') : ∀ (f : Nat) {m : Mem} {x1 : Int32} {x3 : Int32}, L_X8_sides_76 N f m x1 x3 = some (r, m') → AW K 0 76 [(0, q_r 70), (1, q_i x1), (3, q_i x3)] [] m := by
  intro f
  induction f with
  | zero => intro m x1 x3 hF; cases hF
  | succ f hrec_76 =>
    intro m x1 x3 hF
    have hF : S_X8_sides_76 N (L_X8_sides_76 N f) m x1 x3 = some (r, m') := hF
    unfold S_X8_sides_76 at hF
    refine aw_iload_n hK 2 rfl dX8_sides_76 ?_
    refine aw_aload_n hK 0 rfl dX8_sides_77 ?_
    refine gf_8_3 hK rfl (72) rfl (List.mem_of_getElem? (i := 6) rfl) dX8_sides_78 ?_
    refine aw_iload_n hK 1 rfl dX8_sides_81 ?_
    obtain ⟨g12, hF⟩ := gd_some hF
    refine aw_iald hK rfl g12 dX8_sides_82 ?_
    refine aw_icmp_ge hK 104 rfl dX8_sides_83 (fun hc => ?_) (fun hc => ?_)
    · have hF := if_t hF hc
      refine aw_aload_n hK 0 rfl dX8_sides_104 ?_
      refine aw_iconst hK (0) rfl dX8_sides_105 ?_
      obtain ⟨r15, m14, h13, hF⟩ := cal_some hF
      refine aw_cv hK 8 (as := [q_i (0 : Int32)]) (tr_X8_trims h13) gX8_sides_X8_trims rfl rfl rfl (by decide) (na := 1) (by decide +kernel) rfl ⟨by decide, by decide⟩ (Nat.zero_le _) (Nat.le_of_ble_eq_true rfl) dX8_sides_106 ?_
      obtain ⟨g16, hF⟩ := gd_some hF
      obtain ⟨rfl, rfl⟩ := so_inj hF
      exact aw_iret hK hR (isb_narrow g16) dX8_sides_109
    · have hF := if_f hF hc
      refine aw_aload_n hK 0 rfl dX8_sides_86 ?_
      refine gf_8_15 hK rfl (82) rfl (List.mem_of_getElem? (i := 7) rfl) dX8_sides_87 ?_
      refine aw_iload_n hK 2 rfl dX8_sides_90 ?_
      refine aw_aload_n hK 0 rfl dX8_sides_91 ?_
      refine aw_iload_n hK 1 rfl dX8_sides_92 ?_
      refine aw_iload_n hK 2 rfl dX8_sides_93 ?_
      obtain ⟨r19, m18, h17, hF⟩ := cal_some hF
      refine aw_cv hK 8 (as := [q_i x1, q_i x3]) (tr_X8_isEndOf h17) gX8_sides_X8_isEndOf rfl rfl rfl (by decide) (na := 2) (by decide +kernel) rfl ⟨by decide, by decide⟩ (Nat.zero_le _) (Nat.le_of_ble_eq_true rfl) dX8_sides_94 ?_
      obtain ⟨g20, hF⟩ := gd_some hF
      obtain ⟨g21, hF⟩ := gd_some hF
      refine aw_zast hK rfl g20 g21 dX8_sides_97 ?_
      obtain ⟨m22, hm22, hF⟩ := bnd_some hF
      refine aw_mm hm22 ?_
      obtain ⟨y23, hy23, hF⟩ := bnd_some hF
      refine aw_iinc hK (cz := 1) 2 [(3, q_i y23), (0, q_r 70), (1, q_i x1)] (by decide) rfl rfl hy23 rfl dX8_sides_98 ?_
      refine aw_goto hK 76 rfl dX8_sides_101 ?_
      refine aw_sub [1, 2, 0] (lv' := [(0, q_r 70), (1, q_i x1), (3, q_i y23)]) rfl ?_
      exact hrec_76 hF
def B_X8_sides_45 (N : Nat) (rec_10 : Mem → Int32 → Int32 → Int32 → Option (Int32 × Mem)) (m : Mem) (x1 : Int32) (x2 : Int32) (x3 : Int32) (s0 : Int32) : Option (Int32 × Mem) :=
  gd (inb x3 (alen 75)) <|
  gd (inb x3 (alen 79)) <|
  calv (F_X8_adds N m (m 75 (ix x3)) s0 s0 (0 : Int32) (m 79 (ix x3))) fun m10 =>
  bnd (x3 + (1 : Int32)) fun y11 =>
  rec_10 m10 x1 x2 y11
set_option maxRecDepth 100000 in
set_option maxHeartbeats 4000000 in
theorem bk_X8_sides_45 {N : Nat} {K : KT} {m' : Mem} {rec_10 : Mem → Int32 → Int32 → Int32 → Option (Int32 × Mem)} {r : Int32} (hK : KOK K cX8_sides 5 RX8 wsX8_sides 3 0 70) (hR : KRet K (some .boolean) (some r) m') (hrec_10 : ∀ {m : Mem} {x1 : Int32} {x2 : Int32} {x3 : Int32}, rec_10 m x1 x2 x3 = some (r, m') → AW K 0 10 [(0, q_r 70), (1, q_i x1), (2, q_i x2), (3, q_i x3)] [] m) {m : Mem} {x1 : Int32} {x2 : Int32} {x3 : Int32} {s0 : Int32} (hF : B_X8_sides_45 N rec_10 m x1 x2 x3 s0 = some (r, m')) : AW K 0 45 [(0, q_r 70), (1, q_i x1), (2, q_i x2), (3, q_i x3)] [q_i s0] m := by
  unfold B_X8_sides_45 at hF
  refine aw_istore hK [(4, q_i s0), (0, q_r 70), (1, q_i x1), (2, q_i x2), (3, q_i x3)] (by decide) rfl dX8_sides_45 ?_
  refine aw_aload_n hK 1 rfl dX8_sides_47 ?_
  refine aw_aload_n hK 1 rfl dX8_sides_48 ?_
  refine gf_8_6 hK rfl (75) rfl (List.mem_of_getElem? (i := 4) rfl) dX8_sides_49 ?_
  refine aw_iload_n hK 4 rfl dX8_sides_52 ?_
  obtain ⟨g7, hF⟩ := gd_some hF
  refine aw_iald hK rfl g7 dX8_sides_53 ?_
  refine aw_iload hK 0 rfl dX8_sides_54 ?_
  refine aw_iload hK 0 rfl dX8_sides_56 ?_
  refine aw_iconst hK (0) rfl dX8_sides_58 ?_
  refine aw_aload_n hK 1 rfl dX8_sides_59 ?_
  refine gf_8_10 hK rfl (79) rfl (List.mem_of_getElem? (i := 5) rfl) dX8_sides_60 ?_
  refine aw_iload_n hK 4 rfl dX8_sides_63 ?_
  obtain ⟨g8, hF⟩ := gd_some hF
  refine aw_iald hK rfl g8 dX8_sides_64 ?_
  obtain ⟨m10, h9, hF⟩ := calv_some hF
  refine aw_cv hK 8 (as := [q_i (m 75 (ix x3)), q_i s0, q_i s0, q_i (0 : Int32), q_i (m 79 (ix x3))]) (tr_X8_adds h9) gX8_sides_X8_adds rfl rfl rfl (by decide) (na := 5) (by decide +kernel) rfl ⟨by decide, by decide⟩ (Nat.zero_le _) (Nat.le_of_ble_eq_true rfl) dX8_sides_65 ?_
  obtain ⟨y11, hy11, hF⟩ := bnd_some hF
  refine aw_iinc hK (cz := 1) 4 [(3, q_i y11), (4, q_i s0), (0, q_r 70), (1, q_i x1), (2, q_i x2)] (by decide) rfl rfl hy11 rfl dX8_sides_68 ?_
  refine aw_goto hK 10 rfl dX8_sides_71 ?_
  refine aw_sub [2, 3, 4, 0] (lv' := [(0, q_r 70), (1, q_i x1), (2, q_i x2), (3, q_i y11)]) rfl ?_
  exact hrec_10 hF
def S_X8_sides_10 (N : Nat) (rec_10 : Mem → Int32 → Int32 → Int32 → Option (Int32 × Mem)) (m : Mem) (x1 : Int32) (x2 : Int32) (x3 : Int32) : Option (Int32 × Mem) :=
  gd (inb x1 (alen 74)) <|
  if (((160 : Int32) * x1) + (m 74 (ix x1))) ≤ x3 then (
    L_X8_sides_76 N N m x1 (0 : Int32)
  ) else (
    if x2 = (0 : Int32) then (
      gd (inb x3 (alen 77)) <|
      B_X8_sides_45 N rec_10 m x1 x2 x3 (m 77 (ix x3))
    ) else (
      gd (inb x3 (alen 76)) <|
      B_X8_sides_45 N rec_10 m x1 x2 x3 (m 76 (ix x3))
    )
  )
def L_X8_sides_10 (N : Nat) : Nat → Mem → Int32 → Int32 → Int32 → Option (Int32 × Mem)
  | 0 => fun _ _ _ _ => none
  | f + 1 => S_X8_sides_10 N (L_X8_sides_10 N f)
set_option maxRecDepth 100000 in
set_option maxHeartbeats 4000000 in
theorem lp_X8_sides_10 {N : Nat} {K : KT} {m' : Mem} {r : Int32} (hK : KOK K cX8_sides 5 RX8 wsX8_sides 3 0 70) (hR : KRet K (some .boolean) (some r) m') : ∀ (f : Nat) {m : Mem} {x1 : Int32} {x2 : Int32} {x3 : Int32}, L_X8_sides_10 N f m x1 x2 x3 = some (r, m') → AW K 0 10 [(0, q_r 70), (1, q_i x1), (2, q_i x2), (3, q_i x3)] [] m := by
  intro f
  induction f with
  | zero => intro m x1 x2 x3 hF; cases hF
  | succ f hrec_10 =>
    intro m x1 x2 x3 hF
    have hF : S_X8_sides_10 N (L_X8_sides_10 N f) m x1 x2 x3 = some (r, m') := hF
    unfold S_X8_sides_10 at hF
    refine aw_iload_n hK 3 rfl dX8_sides_10 ?_
    refine aw_sipush hK (160) rfl dX8_sides_11 ?_
    refine aw_iload_n hK 1 rfl dX8_sides_14 ?_
    refine aw_imul hK dX8_sides_15 ?_
    refine aw_aload_n hK 0 rfl dX8_sides_16 ?_
    refine gf_8_5 hK rfl (74) rfl (List.mem_of_getElem? (i := 1) rfl) dX8_sides_17 ?_
    refine aw_iload_n hK 1 rfl dX8_sides_20 ?_
    obtain ⟨g4, hF⟩ := gd_some hF
    refine aw_iald hK rfl g4 dX8_sides_21 ?_
    refine aw_iadd hK dX8_sides_22 ?_
    refine aw_icmp_ge hK 74 rfl dX8_sides_23 (fun hc => ?_) (fun hc => ?_)
    · have hF := if_t hF hc
      refine aw_iconst hK (0) rfl dX8_sides_74 ?_
      refine aw_istore_n hK [(3, q_i (0 : Int32)), (0, q_r 70), (1, q_i x1), (2, q_i x2)] (by decide) rfl dX8_sides_75 ?_
      refine aw_sub [1, 2, 0] (lv' := [(0, q_r 70), (1, q_i x1), (3, q_i (0 : Int32))]) rfl ?_
      exact lp_X8_sides_76 hK hR _ hF
    · have hF := if_f hF hc
      refine aw_iload_n hK 2 rfl dX8_sides_26 ?_
      refine aw_if_eq hK 39 rfl dX8_sides_27 (fun hc => ?_) (fun hc => ?_)
      · have hF := if_t hF hc
        refine aw_aload_n hK 0 rfl dX8_sides_39 ?_
        refine gf_8_8 hK rfl (77) rfl (List.mem_of_getElem? (i := 3) rfl) dX8_sides_40 ?_
        refine aw_iload_n hK 3 rfl dX8_sides_43 ?_
        obtain ⟨g5, hF⟩ := gd_some hF
        refine aw_iald hK rfl g5 dX8_sides_44 ?_
        refine aw_sub [0, 1, 2, 3] (lv' := [(0, q_r 70), (1, q_i x1), (2, q_i x2), (3, q_i x3)]) rfl ?_
        exact bk_X8_sides_45 hK hR hrec_10 hF
      · have hF := if_f hF hc
        refine aw_aload_n hK 0 rfl dX8_sides_30 ?_
        refine gf_8_7 hK rfl (76) rfl (List.mem_of_getElem? (i := 2) rfl) dX8_sides_31 ?_
        refine aw_iload_n hK 3 rfl dX8_sides_34 ?_
        obtain ⟨g6, hF⟩ := gd_some hF
        refine aw_iald hK rfl g6 dX8_sides_35 ?_
        refine aw_goto hK 45 rfl dX8_sides_36 ?_
        refine aw_sub [0, 1, 2, 3] (lv' := [(0, q_r 70), (1, q_i x1), (2, q_i x2), (3, q_i x3)]) rfl ?_
        exact bk_X8_sides_45 hK hR hrec_10 hF
def F_X8_sides (N : Nat) (m : Mem) (x1 : Int32) (x2 : Int32) : Option (Int32 × Mem) :=
  calv (F_X8_begins N m) fun m2 =>
  bnd ((160 : Int32) * x1) fun y3 =>
  L_X8_sides_10 N N m2 x1 x2 y3
set_option maxRecDepth 100000 in
set_option maxHeartbeats 4000000 in
theorem tr_X8_sides {N : Nat} {m m' : Mem} {r : Int32} {x1 : Int32} {x2 : Int32} (hF : F_X8_sides N m x1 x2 = some (r, m')) : Tr yX8_sides wsX8_sides 3 70 [q_r 70, q_i x1, q_i x2] m (some r) m' := by
  refine tr_of (bytes := cX8_sides) (maxL := 5) (ret := (some .boolean)) (by decide) rfl (Nat.le_of_ble_eq_true rfl) (fun K hK hR => ?_)
  have hK : KOK K cX8_sides 5 RX8 wsX8_sides 3 0 70 := hK
  show AW K 0 0 [(0, q_r 70), (1, q_i x1), (2, q_i x2)] [] m
  unfold F_X8_sides at hF
  refine aw_aload_n hK 0 rfl dX8_sides_0 ?_
  obtain ⟨m2, h1, hF⟩ := calv_some hF
  refine aw_cv hK 8 (as := []) (tr_X8_begins h1) gX8_sides_X8_begins rfl rfl rfl (by decide) (na := 0) (by decide +kernel) rfl ⟨by decide, by decide⟩ (Nat.zero_le _) (Nat.le_of_ble_eq_true rfl) dX8_sides_1 ?_
  refine aw_sipush hK (160) rfl dX8_sides_4 ?_
  refine aw_iload_n hK 1 rfl dX8_sides_7 ?_
  refine aw_imul hK dX8_sides_8 ?_
  obtain ⟨y3, hy3, hF⟩ := bnd_some hF
  refine aw_nm hy3 ?_
  refine aw_istore_n hK [(3, q_i y3), (0, q_r 70), (1, q_i x1), (2, q_i x2)] (by decide) rfl dX8_sides_9 ?_
  refine aw_sub [1, 2, 3, 0] (lv' := [(0, q_r 70), (1, q_i x1), (2, q_i x2), (3, q_i y3)]) rfl ?_
  exact lp_X8_sides_10 hK hR _ hF
def B_X8_side_36 (N : Nat) (m : Mem) (s0 : Int32) : Option (Int32 × Mem) :=
  cal (F_X8_isFine N m s0) fun r12 m11 =>
  if r12 = (0 : Int32) then (
    some ((0 : Int32), m11)
  ) else (
    cal (F_X8_keeps N m11) fun r15 m14 =>
    some (r15, m14)
  )
set_option maxRecDepth 100000 in
set_option maxHeartbeats 4000000 in
theorem bk_X8_side_36 {N : Nat} {K : KT} {m' : Mem} {r : Int32} (hK : KOK K cX8_side 4 RX8 wsX8_side 4 0 94) (hR : KRet K (some .int) (some r) m') {m : Mem} {s0 : Int32} (hF : B_X8_side_36 N m s0 = some (r, m')) : AW K 0 36 [(0, q_r 70)] [q_i s0, q_r 70] m := by
  unfold B_X8_side_36 at hF
  obtain ⟨r12, m11, h10, hF⟩ := cal_some hF
  refine aw_cv hK 8 (as := [q_i s0]) (tr_X8_isFine h10) gX8_side_X8_isFine rfl rfl rfl (by decide) (na := 1) (by decide +kernel) rfl ⟨by decide, by decide⟩ (Nat.zero_le _) (Nat.le_of_ble_eq_true rfl) dX8_side_36 ?_
  refine aw_if_ne hK 44 rfl dX8_side_39 (fun hc => ?_) (fun hc => ?_)
  · have hF := if_f hF hc
    refine aw_aload_n hK 0 rfl dX8_side_44 ?_
    obtain ⟨r15, m14, h13, hF⟩ := cal_some hF
    refine aw_cv hK 8 (as := []) (tr_X8_keeps h13) gX8_side_X8_keeps rfl rfl rfl (by decide) (na := 0) (by decide +kernel) rfl ⟨by decide, by decide⟩ (Nat.zero_le _) (Nat.le_of_ble_eq_true rfl) dX8_side_45 ?_
    obtain ⟨rfl, rfl⟩ := so_inj hF
    exact aw_iret hK hR rfl dX8_side_48
  · have hF := if_t hF hc
    refine aw_iconst hK (0) rfl dX8_side_42 ?_
    obtain ⟨rfl, rfl⟩ := so_inj hF
    exact aw_iret hK hR rfl dX8_side_43
def B_X8_side_31 (N : Nat) (m : Mem) : Option (Int32 × Mem) :=
  B_X8_side_36 N m (2 : Int32)
set_option maxRecDepth 100000 in
set_option maxHeartbeats 4000000 in
theorem bk_X8_side_31 {N : Nat} {K : KT} {m' : Mem} {r : Int32} (hK : KOK K cX8_side 4 RX8 wsX8_side 4 0 94) (hR : KRet K (some .int) (some r) m') {m : Mem} (hF : B_X8_side_31 N m = some (r, m')) : AW K 0 31 [(0, q_r 70)] [q_r 70] m := by
  unfold B_X8_side_31 at hF
  refine aw_iconst hK (2) rfl dX8_side_31 ?_
  refine aw_goto hK 36 rfl dX8_side_32 ?_
  refine aw_sub [0] (lv' := [(0, q_r 70)]) rfl ?_
  exact bk_X8_side_36 hK hR hF
def F_X8_side (N : Nat) (m : Mem) (x1 : Int32) (x2 : Int32) : Option (Int32 × Mem) :=
  cal (F_X8_isMachine N m x1) fun r3 m2 =>
  if r3 = (0 : Int32) then (
    B_X8_side_36 N m2 (1 : Int32)
  ) else (
    cal (F_X8_isThere N m2) fun r6 m5 =>
    if r6 = (0 : Int32) then (
      B_X8_side_31 N m5
    ) else (
      cal (F_X8_sides N m5 x1 x2) fun r9 m8 =>
      if r9 = (0 : Int32) then (
        B_X8_side_31 N m8
      ) else (
        B_X8_side_36 N m8 (0 : Int32)
      )
    )
  )
set_option maxRecDepth 100000 in
set_option maxHeartbeats 4000000 in
theorem tr_X8_side {N : Nat} {m m' : Mem} {r : Int32} {x1 : Int32} {x2 : Int32} (hF : F_X8_side N m x1 x2 = some (r, m')) : Tr yX8_side wsX8_side 4 94 [q_r 70, q_i x1, q_i x2] m (some r) m' := by
  refine tr_of (bytes := cX8_side) (maxL := 4) (ret := (some .int)) (by decide) rfl (Nat.le_of_ble_eq_true rfl) (fun K hK hR => ?_)
  have hK : KOK K cX8_side 4 RX8 wsX8_side 4 0 94 := hK
  show AW K 0 0 [(0, q_r 70), (1, q_i x1), (2, q_i x2)] [] m
  unfold F_X8_side at hF
  refine aw_aload_n hK 0 rfl dX8_side_0 ?_
  refine aw_iload_n hK 1 rfl dX8_side_1 ?_
  obtain ⟨r3, m2, h1, hF⟩ := cal_some hF
  refine aw_cv hK 8 (as := [q_i x1]) (tr_X8_isMachine h1) gX8_side_X8_isMachine rfl rfl rfl (by decide) (na := 1) (by decide +kernel) rfl ⟨by decide, by decide⟩ (Nat.zero_le _) (Nat.le_of_ble_eq_true rfl) dX8_side_2 ?_
  refine aw_istore_n hK [(3, q_i r3), (0, q_r 70), (1, q_i x1), (2, q_i x2)] (by decide) rfl dX8_side_5 ?_
  refine aw_aload_n hK 1 rfl dX8_side_6 ?_
  refine aw_iload_n hK 0 rfl dX8_side_7 ?_
  refine aw_if_ne hK 15 rfl dX8_side_8 (fun hc => ?_) (fun hc => ?_)
  · have hF := if_f hF hc
    refine aw_aload_n hK 1 rfl dX8_side_15 ?_
    obtain ⟨r6, m5, h4, hF⟩ := cal_some hF
    refine aw_cv hK 8 (as := []) (tr_X8_isThere h4) gX8_side_X8_isThere rfl rfl rfl (by decide) (na := 0) (by decide +kernel) rfl ⟨by decide, by decide⟩ (Nat.zero_le _) (Nat.le_of_ble_eq_true rfl) dX8_side_16 ?_
    refine aw_if_eq hK 31 rfl dX8_side_19 (fun hc => ?_) (fun hc => ?_)
    · have hF := if_t hF hc
      refine aw_sub [1] (lv' := [(0, q_r 70)]) rfl ?_
      exact bk_X8_side_31 hK hR hF
    · have hF := if_f hF hc
      refine aw_aload_n hK 1 rfl dX8_side_22 ?_
      refine aw_iload_n hK 2 rfl dX8_side_23 ?_
      refine aw_iload_n hK 3 rfl dX8_side_24 ?_
      obtain ⟨r9, m8, h7, hF⟩ := cal_some hF
      refine aw_cv hK 8 (as := [q_i x1, q_i x2]) (tr_X8_sides h7) gX8_side_X8_sides rfl rfl rfl (by decide) (na := 2) (by decide +kernel) rfl ⟨by decide, by decide⟩ (Nat.zero_le _) (Nat.le_of_ble_eq_true rfl) dX8_side_25 ?_
      refine aw_if_ne hK 35 rfl dX8_side_28 (fun hc => ?_) (fun hc => ?_)
      · have hF := if_f hF hc
        refine aw_iconst hK (0) rfl dX8_side_35 ?_
        refine aw_sub [1] (lv' := [(0, q_r 70)]) rfl ?_
        exact bk_X8_side_36 hK hR hF
      · have hF := if_t hF hc
        refine aw_sub [1] (lv' := [(0, q_r 70)]) rfl ?_
        exact bk_X8_side_31 hK hR hF
  · have hF := if_t hF hc
    refine aw_iconst hK (1) rfl dX8_side_11 ?_
    refine aw_goto hK 36 rfl dX8_side_12 ?_
    refine aw_sub [1] (lv' := [(0, q_r 70)]) rfl ?_
    exact bk_X8_side_36 hK hR hF
def B_X8_isPlainOf_57 (N : Nat) (rec_8 : Mem → Int32 → Int32 → Int32 → Option (Int32 × Mem)) (m : Mem) (x1 : Int32) (x3 : Int32) (s0 : Int32) : Option (Int32 × Mem) :=
  bnd (x3 + (1 : Int32)) fun y7 =>
  rec_8 m x1 s0 y7
set_option maxRecDepth 100000 in
set_option maxHeartbeats 4000000 in
theorem bk_X8_isPlainOf_57 {N : Nat} {K : KT} {m' : Mem} {rec_8 : Mem → Int32 → Int32 → Int32 → Option (Int32 × Mem)} {r : Int32} (hK : KOK K cX8_isPlainOf 4 RX8 wsX8_isPlainOf 0 0 0) (hR : KRet K (some .boolean) (some r) m') (hrec_8 : ∀ {m : Mem} {x1 : Int32} {x2 : Int32} {x3 : Int32}, rec_8 m x1 x2 x3 = some (r, m') → AW K 0 8 [(0, q_r 70), (1, q_i x1), (2, q_i x2), (3, q_i x3)] [] m) {m : Mem} {x1 : Int32} {x3 : Int32} {s0 : Int32} (hF : B_X8_isPlainOf_57 N rec_8 m x1 x3 s0 = some (r, m')) : AW K 0 57 [(0, q_r 70), (1, q_i x1), (3, q_i x3)] [q_i s0] m := by
  unfold B_X8_isPlainOf_57 at hF
  refine aw_istore_n hK [(2, q_i s0), (0, q_r 70), (1, q_i x1), (3, q_i x3)] (by decide) rfl dX8_isPlainOf_57 ?_
  obtain ⟨y7, hy7, hF⟩ := bnd_some hF
  refine aw_iinc hK (cz := 1) 3 [(3, q_i y7), (2, q_i s0), (0, q_r 70), (1, q_i x1)] (by decide) rfl rfl hy7 rfl dX8_isPlainOf_58 ?_
  refine aw_goto hK 8 rfl dX8_isPlainOf_61 ?_
  refine aw_sub [2, 3, 1, 0] (lv' := [(0, q_r 70), (1, q_i x1), (2, q_i s0), (3, q_i y7)]) rfl ?_
  exact hrec_8 hF
def B_X8_isPlainOf_56 (N : Nat) (rec_8 : Mem → Int32 → Int32 → Int32 → Option (Int32 × Mem)) (m : Mem) (x1 : Int32) (x3 : Int32) : Option (Int32 × Mem) :=
  B_X8_isPlainOf_57 N rec_8 m x1 x3 (0 : Int32)
set_option maxRecDepth 100000 in
set_option maxHeartbeats 4000000 in
theorem bk_X8_isPlainOf_56 {N : Nat} {K : KT} {m' : Mem} {rec_8 : Mem → Int32 → Int32 → Int32 → Option (Int32 × Mem)} {r : Int32} (hK : KOK K cX8_isPlainOf 4 RX8 wsX8_isPlainOf 0 0 0) (hR : KRet K (some .boolean) (some r) m') (hrec_8 : ∀ {m : Mem} {x1 : Int32} {x2 : Int32} {x3 : Int32}, rec_8 m x1 x2 x3 = some (r, m') → AW K 0 8 [(0, q_r 70), (1, q_i x1), (2, q_i x2), (3, q_i x3)] [] m) {m : Mem} {x1 : Int32} {x3 : Int32} (hF : B_X8_isPlainOf_56 N rec_8 m x1 x3 = some (r, m')) : AW K 0 56 [(0, q_r 70), (1, q_i x1), (3, q_i x3)] [] m := by
  unfold B_X8_isPlainOf_56 at hF
  refine aw_iconst hK (0) rfl dX8_isPlainOf_56 ?_
  refine aw_sub [0, 1, 2] (lv' := [(0, q_r 70), (1, q_i x1), (3, q_i x3)]) rfl ?_
  exact bk_X8_isPlainOf_57 hK hR hrec_8 hF
def S_X8_isPlainOf_8 (N : Nat) (rec_8 : Mem → Int32 → Int32 → Int32 → Option (Int32 × Mem)) (m : Mem) (x1 : Int32) (x2 : Int32) (x3 : Int32) : Option (Int32 × Mem) :=
  gd (inb x1 (alen 74)) <|
  if (((160 : Int32) * x1) + (m 74 (ix x1))) ≤ x3 then (
    gd (isb x2) <|
    some (x2, m)
  ) else (
    if x2 = (0 : Int32) then (
      B_X8_isPlainOf_56 N rec_8 m x1 x3
    ) else (
      gd (inb x3 (alen 76)) <|
      gd (inb x3 (alen 77)) <|
      if (m 76 (ix x3)) = (m 77 (ix x3)) then (
        gd (inb x3 (alen 78)) <|
        if (m 78 (ix x3)) = (0 : Int32) then (
          B_X8_isPlainOf_57 N rec_8 m x1 x3 (1 : Int32)
        ) else (
          B_X8_isPlainOf_56 N rec_8 m x1 x3
        )
      ) else (
        B_X8_isPlainOf_56 N rec_8 m x1 x3
      )
    )
  )
def L_X8_isPlainOf_8 (N : Nat) : Nat → Mem → Int32 → Int32 → Int32 → Option (Int32 × Mem)
  | 0 => fun _ _ _ _ => none
  | f + 1 => S_X8_isPlainOf_8 N (L_X8_isPlainOf_8 N f)
set_option maxRecDepth 100000 in
set_option maxHeartbeats 4000000 in
theorem lp_X8_isPlainOf_8 {N : Nat} {K : KT} {m' : Mem} {r : Int32} (hK : KOK K cX8_isPlainOf 4 RX8 wsX8_isPlainOf 0 0 0) (hR : KRet K (some .boolean) (some r) m') : ∀ (f : Nat) {m : Mem} {x1 : Int32} {x2 : Int32} {x3 : Int32}, L_X8_isPlainOf_8 N f m x1 x2 x3 = some (r, m') → AW K 0 8 [(0, q_r 70), (1, q_i x1), (2, q_i x2), (3, q_i x3)] [] m := by
  intro f
  induction f with
  | zero => intro m x1 x2 x3 hF; cases hF
  | succ f hrec_8 =>
    intro m x1 x2 x3 hF
    have hF : S_X8_isPlainOf_8 N (L_X8_isPlainOf_8 N f) m x1 x2 x3 = some (r, m') := hF
    unfold S_X8_isPlainOf_8 at hF
    refine aw_iload_n hK 3 rfl dX8_isPlainOf_8 ?_
    refine aw_sipush hK (160) rfl dX8_isPlainOf_9 ?_
    refine aw_iload_n hK 1 rfl dX8_isPlainOf_12 ?_
    refine aw_imul hK dX8_isPlainOf_13 ?_
    refine aw_aload_n hK 0 rfl dX8_isPlainOf_14 ?_
    refine gf_8_5 hK rfl (74) rfl (List.mem_of_getElem? (i := 1) rfl) dX8_isPlainOf_15 ?_
    refine aw_iload_n hK 1 rfl dX8_isPlainOf_18 ?_
    obtain ⟨g2, hF⟩ := gd_some hF
    refine aw_iald hK rfl g2 dX8_isPlainOf_19 ?_
    refine aw_iadd hK dX8_isPlainOf_20 ?_
    refine aw_icmp_ge hK 64 rfl dX8_isPlainOf_21 (fun hc => ?_) (fun hc => ?_)
    · have hF := if_t hF hc
      refine aw_iload_n hK 2 rfl dX8_isPlainOf_64 ?_
      obtain ⟨g3, hF⟩ := gd_some hF
      obtain ⟨rfl, rfl⟩ := so_inj hF
      exact aw_iret hK hR (isb_narrow g3) dX8_isPlainOf_65
    · have hF := if_f hF hc
      refine aw_iload_n hK 2 rfl dX8_isPlainOf_24 ?_
      refine aw_if_eq hK 56 rfl dX8_isPlainOf_25 (fun hc => ?_) (fun hc => ?_)
      · have hF := if_t hF hc
        refine aw_sub [0, 1, 3] (lv' := [(0, q_r 70), (1, q_i x1), (3, q_i x3)]) rfl ?_
        exact bk_X8_isPlainOf_56 hK hR hrec_8 hF
      · have hF := if_f hF hc
        refine aw_aload_n hK 0 rfl dX8_isPlainOf_28 ?_
        refine gf_8_7 hK rfl (76) rfl (List.mem_of_getElem? (i := 2) rfl) dX8_isPlainOf_29 ?_
        refine aw_iload_n hK 3 rfl dX8_isPlainOf_32 ?_
        obtain ⟨g4, hF⟩ := gd_some hF
        refine aw_iald hK rfl g4 dX8_isPlainOf_33 ?_
        refine aw_aload_n hK 0 rfl dX8_isPlainOf_34 ?_
        refine gf_8_8 hK rfl (77) rfl (List.mem_of_getElem? (i := 3) rfl) dX8_isPlainOf_35 ?_
        refine aw_iload_n hK 3 rfl dX8_isPlainOf_38 ?_
        obtain ⟨g5, hF⟩ := gd_some hF
        refine aw_iald hK rfl g5 dX8_isPlainOf_39 ?_
        refine aw_icmp_ne hK 56 rfl dX8_isPlainOf_40 (fun hc => ?_) (fun hc => ?_)
        · have hF := if_f hF hc
          refine aw_sub [0, 1, 3] (lv' := [(0, q_r 70), (1, q_i x1), (3, q_i x3)]) rfl ?_
          exact bk_X8_isPlainOf_56 hK hR hrec_8 hF
        · have hF := if_t hF hc
          refine aw_aload_n hK 0 rfl dX8_isPlainOf_43 ?_
          refine gf_8_9 hK rfl (78) rfl (List.mem_of_getElem? (i := 4) rfl) dX8_isPlainOf_44 ?_
          refine aw_iload_n hK 3 rfl dX8_isPlainOf_47 ?_
          obtain ⟨g6, hF⟩ := gd_some hF
          refine aw_iald hK rfl g6 dX8_isPlainOf_48 ?_
          refine aw_if_ne hK 56 rfl dX8_isPlainOf_49 (fun hc => ?_) (fun hc => ?_)
          · have hF := if_f hF hc
            refine aw_sub [0, 1, 3] (lv' := [(0, q_r 70), (1, q_i x1), (3, q_i x3)]) rfl ?_
            exact bk_X8_isPlainOf_56 hK hR hrec_8 hF
          · have hF := if_t hF hc
            refine aw_iconst hK (1) rfl dX8_isPlainOf_52 ?_
            refine aw_goto hK 57 rfl dX8_isPlainOf_53 ?_
            refine aw_sub [0, 1, 3] (lv' := [(0, q_r 70), (1, q_i x1), (3, q_i x3)]) rfl ?_
            exact bk_X8_isPlainOf_57 hK hR hrec_8 hF
def F_X8_isPlainOf (N : Nat) (m : Mem) (x1 : Int32) : Option (Int32 × Mem) :=
  bnd ((160 : Int32) * x1) fun y1 =>
  L_X8_isPlainOf_8 N N m x1 (1 : Int32) y1
set_option maxRecDepth 100000 in
set_option maxHeartbeats 4000000 in
theorem tr_X8_isPlainOf {N : Nat} {m m' : Mem} {r : Int32} {x1 : Int32} (hF : F_X8_isPlainOf N m x1 = some (r, m')) : Tr yX8_isPlainOf wsX8_isPlainOf 0 0 [q_r 70, q_i x1] m (some r) m' := by
  refine tr_of (bytes := cX8_isPlainOf) (maxL := 4) (ret := (some .boolean)) (by decide) rfl (Nat.le_of_ble_eq_true rfl) (fun K hK hR => ?_)
  have hK : KOK K cX8_isPlainOf 4 RX8 wsX8_isPlainOf 0 0 0 := hK
  show AW K 0 0 [(0, q_r 70), (1, q_i x1)] [] m
  unfold F_X8_isPlainOf at hF
  refine aw_iconst hK (1) rfl dX8_isPlainOf_0 ?_
  refine aw_istore_n hK [(2, q_i (1 : Int32)), (0, q_r 70), (1, q_i x1)] (by decide) rfl dX8_isPlainOf_1 ?_
  refine aw_sipush hK (160) rfl dX8_isPlainOf_2 ?_
  refine aw_iload_n hK 2 rfl dX8_isPlainOf_5 ?_
  refine aw_imul hK dX8_isPlainOf_6 ?_
  obtain ⟨y1, hy1, hF⟩ := bnd_some hF
  refine aw_nm hy1 ?_
  refine aw_istore_n hK [(3, q_i y1), (2, q_i (1 : Int32)), (0, q_r 70), (1, q_i x1)] (by decide) rfl dX8_isPlainOf_7 ?_
  refine aw_sub [2, 3, 1, 0] (lv' := [(0, q_r 70), (1, q_i x1), (2, q_i (1 : Int32)), (3, q_i y1)]) rfl ?_
  exact lp_X8_isPlainOf_8 hK hR _ hF
def B_X8_closed_77 (N : Nat) (rec_5 : Mem → Int32 → Int32 → Int32 → Option (Int32 × Mem)) (rec_19 : Mem → Int32 → Int32 → Int32 → Int32 → Option (Int32 × Mem)) (m : Mem) (x1 : Int32) (x4 : Int32) (x5 : Int32) (s0 : Int32) (s1 : Int32) : Option (Int32 × Mem) :=
  bnd (s1 ||| s0) fun y7 =>
  bnd (x5 + (1 : Int32)) fun y8 =>
  rec_19 m x1 y7 x4 y8
set_option maxRecDepth 100000 in
set_option maxHeartbeats 4000000 in
theorem bk_X8_closed_77 {N : Nat} {K : KT} {m' : Mem} {rec_5 : Mem → Int32 → Int32 → Int32 → Option (Int32 × Mem)} {rec_19 : Mem → Int32 → Int32 → Int32 → Int32 → Option (Int32 × Mem)} {r : Int32} (hK : KOK K cX8_closed 6 RX8 wsX8_closed 0 0 0) (hR : KRet K (some .int) (some r) m') (hrec_5 : ∀ {m : Mem} {x1 : Int32} {x3 : Int32} {x4 : Int32}, rec_5 m x1 x3 x4 = some (r, m') → AW K 0 5 [(0, q_r 70), (1, q_i x1), (3, q_i x3), (4, q_i x4)] [] m) (hrec_19 : ∀ {m : Mem} {x1 : Int32} {x3 : Int32} {x4 : Int32} {x5 : Int32}, rec_19 m x1 x3 x4 x5 = some (r, m') → AW K 0 19 [(0, q_r 70), (1, q_i x1), (3, q_i x3), (4, q_i x4), (5, q_i x5)] [] m) {m : Mem} {x1 : Int32} {x4 : Int32} {x5 : Int32} {s0 : Int32} {s1 : Int32} (hF : B_X8_closed_77 N rec_5 rec_19 m x1 x4 x5 s0 s1 = some (r, m')) : AW K 0 77 [(0, q_r 70), (1, q_i x1), (4, q_i x4), (5, q_i x5)] [q_i s0, q_i s1] m := by
  unfold B_X8_closed_77 at hF
  refine aw_ior hK dX8_closed_77 ?_
  obtain ⟨y7, hy7, hF⟩ := bnd_some hF
  refine aw_nm hy7 ?_
  refine aw_istore_n hK [(3, q_i y7), (0, q_r 70), (1, q_i x1), (4, q_i x4), (5, q_i x5)] (by decide) rfl dX8_closed_78 ?_
  obtain ⟨y8, hy8, hF⟩ := bnd_some hF
  refine aw_iinc hK (cz := 1) 4 [(5, q_i y8), (3, q_i y7), (0, q_r 70), (1, q_i x1), (4, q_i x4)] (by decide) rfl rfl hy8 rfl dX8_closed_79 ?_
  refine aw_goto hK 19 rfl dX8_closed_82 ?_
  refine aw_sub [2, 3, 1, 4, 0] (lv' := [(0, q_r 70), (1, q_i x1), (3, q_i y7), (4, q_i x4), (5, q_i y8)]) rfl ?_
  exact hrec_19 hF
def B_X8_closed_76 (N : Nat) (rec_5 : Mem → Int32 → Int32 → Int32 → Option (Int32 × Mem)) (rec_19 : Mem → Int32 → Int32 → Int32 → Int32 → Option (Int32 × Mem)) (m : Mem) (x1 : Int32) (x4 : Int32) (x5 : Int32) (s0 : Int32) : Option (Int32 × Mem) :=
  B_X8_closed_77 N rec_5 rec_19 m x1 x4 x5 (0 : Int32) s0
set_option maxRecDepth 100000 in
set_option maxHeartbeats 4000000 in
theorem bk_X8_closed_76 {N : Nat} {K : KT} {m' : Mem} {rec_5 : Mem → Int32 → Int32 → Int32 → Option (Int32 × Mem)} {rec_19 : Mem → Int32 → Int32 → Int32 → Int32 → Option (Int32 × Mem)} {r : Int32} (hK : KOK K cX8_closed 6 RX8 wsX8_closed 0 0 0) (hR : KRet K (some .int) (some r) m') (hrec_5 : ∀ {m : Mem} {x1 : Int32} {x3 : Int32} {x4 : Int32}, rec_5 m x1 x3 x4 = some (r, m') → AW K 0 5 [(0, q_r 70), (1, q_i x1), (3, q_i x3), (4, q_i x4)] [] m) (hrec_19 : ∀ {m : Mem} {x1 : Int32} {x3 : Int32} {x4 : Int32} {x5 : Int32}, rec_19 m x1 x3 x4 x5 = some (r, m') → AW K 0 19 [(0, q_r 70), (1, q_i x1), (3, q_i x3), (4, q_i x4), (5, q_i x5)] [] m) {m : Mem} {x1 : Int32} {x4 : Int32} {x5 : Int32} {s0 : Int32} (hF : B_X8_closed_76 N rec_5 rec_19 m x1 x4 x5 s0 = some (r, m')) : AW K 0 76 [(0, q_r 70), (1, q_i x1), (4, q_i x4), (5, q_i x5)] [q_i s0] m := by
  unfold B_X8_closed_76 at hF
  refine aw_iconst hK (0) rfl dX8_closed_76 ?_
  refine aw_sub [0, 1, 2, 3] (lv' := [(0, q_r 70), (1, q_i x1), (4, q_i x4), (5, q_i x5)]) rfl ?_
  exact bk_X8_closed_77 hK hR hrec_5 hrec_19 hF
def S_X8_closed_19 (N : Nat) (rec_5 : Mem → Int32 → Int32 → Int32 → Option (Int32 × Mem)) (rec_19 : Mem → Int32 → Int32 → Int32 → Int32 → Option (Int32 × Mem)) (m : Mem) (x1 : Int32) (x3 : Int32) (x4 : Int32) (x5 : Int32) : Option (Int32 × Mem) :=
  gd (inb x1 (alen 74)) <|
  if (((160 : Int32) * x1) + (m 74 (ix x1))) ≤ x5 then (
    bnd (x4 + (1 : Int32)) fun y3 =>
    rec_5 m x1 x3 y3
  ) else (
    gd (inb x5 (alen 76)) <|
    if (m 76 (ix x5)) = (8 : Int32) then (
      gd (inb x5 (alen 75)) <|
      if ((q_shr x3 (m 75 (ix x5))) &&& (1 : Int32)) = (1 : Int32) then (
        gd (inb x5 (alen 79)) <|
        B_X8_closed_77 N rec_5 rec_19 m x1 x4 x5 (q_shl (1 : Int32) (m 79 (ix x5))) x3
      ) else (
        B_X8_closed_76 N rec_5 rec_19 m x1 x4 x5 x3
      )
    ) else (
      B_X8_closed_76 N rec_5 rec_19 m x1 x4 x5 x3
    )
  )
def L_X8_closed_19 (N : Nat) (rec_5 : Mem → Int32 → Int32 → Int32 → Option (Int32 × Mem)) : Nat → Mem → Int32 → Int32 → Int32 → Int32 → Option (Int32 × Mem)
  | 0 => fun _ _ _ _ _ => none
  | f + 1 => S_X8_closed_19 N rec_5 (L_X8_closed_19 N rec_5 f)
set_option maxRecDepth 100000 in
set_option maxHeartbeats 4000000 in
theorem lp_X8_closed_19 {N : Nat} {K : KT} {m' : Mem} {rec_5 : Mem → Int32 → Int32 → Int32 → Option (Int32 × Mem)} {r : Int32} (hK : KOK K cX8_closed 6 RX8 wsX8_closed 0 0 0) (hR : KRet K (some .int) (some r) m') (hrec_5 : ∀ {m : Mem} {x1 : Int32} {x3 : Int32} {x4 : Int32}, rec_5 m x1 x3 x4 = some (r, m') → AW K 0 5 [(0, q_r 70), (1, q_i x1), (3, q_i x3), (4, q_i x4)] [] m) : ∀ (f : Nat) {m : Mem} {x1 : Int32} {x3 : Int32} {x4 : Int32} {x5 : Int32}, L_X8_closed_19 N rec_5 f m x1 x3 x4 x5 = some (r, m') → AW K 0 19 [(0, q_r 70), (1, q_i x1), (3, q_i x3), (4, q_i x4), (5, q_i x5)] [] m := by
  intro f
  induction f with
  | zero => intro m x1 x3 x4 x5 hF; cases hF
  | succ f hrec_19 =>
    intro m x1 x3 x4 x5 hF
    have hF : S_X8_closed_19 N rec_5 (L_X8_closed_19 N rec_5 f) m x1 x3 x4 x5 = some (r, m') := hF
    unfold S_X8_closed_19 at hF
    refine aw_iload hK 4 rfl dX8_closed_19 ?_
    refine aw_sipush hK (160) rfl dX8_closed_21 ?_
    refine aw_iload_n hK 1 rfl dX8_closed_24 ?_
    refine aw_imul hK dX8_closed_25 ?_
    refine aw_aload_n hK 0 rfl dX8_closed_26 ?_
    refine gf_8_5 hK rfl (74) rfl (List.mem_of_getElem? (i := 1) rfl) dX8_closed_27 ?_
    refine aw_iload_n hK 1 rfl dX8_closed_30 ?_
    obtain ⟨g2, hF⟩ := gd_some hF
    refine aw_iald hK rfl g2 dX8_closed_31 ?_
    refine aw_iadd hK dX8_closed_32 ?_
    refine aw_icmp_ge hK 85 rfl dX8_closed_33 (fun hc => ?_) (fun hc => ?_)
    · have hF := if_t hF hc
      obtain ⟨y3, hy3, hF⟩ := bnd_some hF
      refine aw_iinc hK (cz := 1) 3 [(4, q_i y3), (0, q_r 70), (1, q_i x1), (3, q_i x3), (5, q_i x5)] (by decide) rfl rfl hy3 rfl dX8_closed_85 ?_
      refine aw_goto hK 5 rfl dX8_closed_88 ?_
      refine aw_sub [1, 2, 3, 0] (lv' := [(0, q_r 70), (1, q_i x1), (3, q_i x3), (4, q_i y3)]) rfl ?_
      exact hrec_5 hF
    · have hF := if_f hF hc
      refine aw_iload_n hK 2 rfl dX8_closed_36 ?_
      refine aw_aload_n hK 0 rfl dX8_closed_37 ?_
      refine gf_8_7 hK rfl (76) rfl (List.mem_of_getElem? (i := 2) rfl) dX8_closed_38 ?_
      refine aw_iload hK 4 rfl dX8_closed_41 ?_
      obtain ⟨g4, hF⟩ := gd_some hF
      refine aw_iald hK rfl g4 dX8_closed_43 ?_
      refine aw_bipush hK (8) rfl dX8_closed_44 ?_
      refine aw_icmp_ne hK 76 rfl dX8_closed_46 (fun hc => ?_) (fun hc => ?_)
      · have hF := if_f hF hc
        refine aw_sub [0, 1, 3, 4] (lv' := [(0, q_r 70), (1, q_i x1), (4, q_i x4), (5, q_i x5)]) rfl ?_
        exact bk_X8_closed_76 hK hR hrec_5 hrec_19 hF
      · have hF := if_t hF hc
        refine aw_iload_n hK 2 rfl dX8_closed_49 ?_
        refine aw_aload_n hK 0 rfl dX8_closed_50 ?_
        refine gf_8_6 hK rfl (75) rfl (List.mem_of_getElem? (i := 3) rfl) dX8_closed_51 ?_
        refine aw_iload hK 4 rfl dX8_closed_54 ?_
        obtain ⟨g5, hF⟩ := gd_some hF
        refine aw_iald hK rfl g5 dX8_closed_56 ?_
        refine aw_ishr hK dX8_closed_57 ?_
        refine aw_iconst hK (1) rfl dX8_closed_58 ?_
        refine aw_iand hK dX8_closed_59 ?_
        refine aw_iconst hK (1) rfl dX8_closed_60 ?_
        refine aw_icmp_ne hK 76 rfl dX8_closed_61 (fun hc => ?_) (fun hc => ?_)
        · have hF := if_f hF hc
          refine aw_sub [0, 1, 3, 4] (lv' := [(0, q_r 70), (1, q_i x1), (4, q_i x4), (5, q_i x5)]) rfl ?_
          exact bk_X8_closed_76 hK hR hrec_5 hrec_19 hF
        · have hF := if_t hF hc
          refine aw_iconst hK (1) rfl dX8_closed_64 ?_
          refine aw_aload_n hK 0 rfl dX8_closed_65 ?_
          refine gf_8_10 hK rfl (79) rfl (List.mem_of_getElem? (i := 4) rfl) dX8_closed_66 ?_
          refine aw_iload hK 4 rfl dX8_closed_69 ?_
          obtain ⟨g6, hF⟩ := gd_some hF
          refine aw_iald hK rfl g6 dX8_closed_71 ?_
          refine aw_ishl hK dX8_closed_72 ?_
          refine aw_goto hK 77 rfl dX8_closed_73 ?_
          refine aw_sub [0, 1, 3, 4] (lv' := [(0, q_r 70), (1, q_i x1), (4, q_i x4), (5, q_i x5)]) rfl ?_
          exact bk_X8_closed_77 hK hR hrec_5 hrec_19 hF
def S_X8_closed_5 (N : Nat) (rec_5 : Mem → Int32 → Int32 → Int32 → Option (Int32 × Mem)) (m : Mem) (x1 : Int32) (x3 : Int32) (x4 : Int32) : Option (Int32 × Mem) :=
  if (32 : Int32) ≤ x4 then (
    some (x3, m)
  ) else (
    bnd ((160 : Int32) * x1) fun y1 =>
    L_X8_closed_19 N rec_5 N m x1 x3 x4 y1
  )
def L_X8_closed_5 (N : Nat) : Nat → Mem → Int32 → Int32 → Int32 → Option (Int32 × Mem)
  | 0 => fun _ _ _ _ => none
  | f + 1 => S_X8_closed_5 N (L_X8_closed_5 N f)
set_option maxRecDepth 100000 in
set_option maxHeartbeats 4000000 in
theorem lp_X8_closed_5 {N : Nat} {K : KT} {m' : Mem} {r : Int32} (hK : KOK K cX8_closed 6 RX8 wsX8_closed 0 0 0) (hR : KRet K (some .int) (some r) m') : ∀ (f : Nat) {m : Mem} {x1 : Int32} {x3 : Int32} {x4 : Int32}, L_X8_closed_5 N f m x1 x3 x4 = some (r, m') → AW K 0 5 [(0, q_r 70), (1, q_i x1), (3, q_i x3), (4, q_i x4)] [] m := by
  intro f
  induction f with
  | zero => intro m x1 x3 x4 hF; cases hF
  | succ f hrec_5 =>
    intro m x1 x3 x4 hF
    have hF : S_X8_closed_5 N (L_X8_closed_5 N f) m x1 x3 x4 = some (r, m') := hF
    unfold S_X8_closed_5 at hF
    refine aw_iload hK 3 rfl dX8_closed_5 ?_
    refine aw_bipush hK (32) rfl dX8_closed_7 ?_
    refine aw_icmp_ge hK 91 rfl dX8_closed_9 (fun hc => ?_) (fun hc => ?_)
    · have hF := if_t hF hc
      refine aw_iload_n hK 2 rfl dX8_closed_91 ?_
      obtain ⟨rfl, rfl⟩ := so_inj hF
      exact aw_iret hK hR rfl dX8_closed_92
    · have hF := if_f hF hc
      refine aw_sipush hK (160) rfl dX8_closed_12 ?_
      refine aw_iload_n hK 1 rfl dX8_closed_15 ?_
      refine aw_imul hK dX8_closed_16 ?_
      obtain ⟨y1, hy1, hF⟩ := bnd_some hF
      refine aw_nm hy1 ?_
      refine aw_istore hK [(5, q_i y1), (0, q_r 70), (1, q_i x1), (3, q_i x3), (4, q_i x4)] (by decide) rfl dX8_closed_17 ?_
      refine aw_sub [1, 2, 3, 4, 0] (lv' := [(0, q_r 70), (1, q_i x1), (3, q_i x3), (4, q_i x4), (5, q_i y1)]) rfl ?_
      exact lp_X8_closed_19 hK hR hrec_5 _ hF
def F_X8_closed (N : Nat) (m : Mem) (x1 : Int32) (x2 : Int32) : Option (Int32 × Mem) :=
  L_X8_closed_5 N N m x1 x2 (0 : Int32)
set_option maxRecDepth 100000 in
set_option maxHeartbeats 4000000 in
theorem tr_X8_closed {N : Nat} {m m' : Mem} {r : Int32} {x1 : Int32} {x2 : Int32} (hF : F_X8_closed N m x1 x2 = some (r, m')) : Tr yX8_closed wsX8_closed 0 0 [q_r 70, q_i x1, q_i x2] m (some r) m' := by
  refine tr_of (bytes := cX8_closed) (maxL := 6) (ret := (some .int)) (by decide) rfl (Nat.le_of_ble_eq_true rfl) (fun K hK hR => ?_)
  have hK : KOK K cX8_closed 6 RX8 wsX8_closed 0 0 0 := hK
  show AW K 0 0 [(0, q_r 70), (1, q_i x1), (2, q_i x2)] [] m
  unfold F_X8_closed at hF
  refine aw_iload_n hK 2 rfl dX8_closed_0 ?_
  refine aw_istore_n hK [(3, q_i x2), (0, q_r 70), (1, q_i x1), (2, q_i x2)] (by decide) rfl dX8_closed_1 ?_
  refine aw_iconst hK (0) rfl dX8_closed_2 ?_
  refine aw_istore hK [(4, q_i (0 : Int32)), (3, q_i x2), (0, q_r 70), (1, q_i x1), (2, q_i x2)] (by decide) rfl dX8_closed_3 ?_
  refine aw_sub [2, 3, 1, 0] (lv' := [(0, q_r 70), (1, q_i x1), (3, q_i x2), (4, q_i (0 : Int32))]) rfl ?_
  exact lp_X8_closed_5 hK hR _ hF
def B_X8_step_68 (N : Nat) (rec_10 : Mem → Int32 → Int32 → Int32 → Int32 → Int32 → Option (Int32 × Mem)) (m : Mem) (x1 : Int32) (x2 : Int32) (x3 : Int32) (x5 : Int32) (s0 : Int32) (s1 : Int32) : Option (Int32 × Mem) :=
  bnd (s1 ||| s0) fun y9 =>
  bnd (x5 + (1 : Int32)) fun y10 =>
  rec_10 m x1 x2 x3 y9 y10
set_option maxRecDepth 100000 in
set_option maxHeartbeats 4000000 in
theorem bk_X8_step_68 {N : Nat} {K : KT} {m' : Mem} {rec_10 : Mem → Int32 → Int32 → Int32 → Int32 → Int32 → Option (Int32 × Mem)} {r : Int32} (hK : KOK K cX8_step 6 RX8 wsX8_step 1 0 25) (hR : KRet K (some .int) (some r) m') (hrec_10 : ∀ {m : Mem} {x1 : Int32} {x2 : Int32} {x3 : Int32} {x4 : Int32} {x5 : Int32}, rec_10 m x1 x2 x3 x4 x5 = some (r, m') → AW K 0 10 [(0, q_r 70), (1, q_i x1), (2, q_i x2), (3, q_i x3), (4, q_i x4), (5, q_i x5)] [] m) {m : Mem} {x1 : Int32} {x2 : Int32} {x3 : Int32} {x5 : Int32} {s0 : Int32} {s1 : Int32} (hF : B_X8_step_68 N rec_10 m x1 x2 x3 x5 s0 s1 = some (r, m')) : AW K 0 68 [(0, q_r 70), (1, q_i x1), (2, q_i x2), (3, q_i x3), (5, q_i x5)] [q_i s0, q_i s1] m := by
  unfold B_X8_step_68 at hF
  refine aw_ior hK dX8_step_68 ?_
  obtain ⟨y9, hy9, hF⟩ := bnd_some hF
  refine aw_nm hy9 ?_
  refine aw_istore hK [(4, q_i y9), (0, q_r 70), (1, q_i x1), (2, q_i x2), (3, q_i x3), (5, q_i x5)] (by decide) rfl dX8_step_69 ?_
  obtain ⟨y10, hy10, hF⟩ := bnd_some hF
  refine aw_iinc hK (cz := 1) 5 [(5, q_i y10), (4, q_i y9), (0, q_r 70), (1, q_i x1), (2, q_i x2), (3, q_i x3)] (by decide) rfl rfl hy10 rfl dX8_step_71 ?_
  refine aw_goto hK 10 rfl dX8_step_74 ?_
  refine aw_sub [2, 3, 4, 5, 1, 0] (lv' := [(0, q_r 70), (1, q_i x1), (2, q_i x2), (3, q_i x3), (4, q_i y9), (5, q_i y10)]) rfl ?_
  exact hrec_10 hF
def B_X8_step_67 (N : Nat) (rec_10 : Mem → Int32 → Int32 → Int32 → Int32 → Int32 → Option (Int32 × Mem)) (m : Mem) (x1 : Int32) (x2 : Int32) (x3 : Int32) (x5 : Int32) (s0 : Int32) : Option (Int32 × Mem) :=
  B_X8_step_68 N rec_10 m x1 x2 x3 x5 (0 : Int32) s0
set_option maxRecDepth 100000 in
set_option maxHeartbeats 4000000 in
theorem bk_X8_step_67 {N : Nat} {K : KT} {m' : Mem} {rec_10 : Mem → Int32 → Int32 → Int32 → Int32 → Int32 → Option (Int32 × Mem)} {r : Int32} (hK : KOK K cX8_step 6 RX8 wsX8_step 1 0 25) (hR : KRet K (some .int) (some r) m') (hrec_10 : ∀ {m : Mem} {x1 : Int32} {x2 : Int32} {x3 : Int32} {x4 : Int32} {x5 : Int32}, rec_10 m x1 x2 x3 x4 x5 = some (r, m') → AW K 0 10 [(0, q_r 70), (1, q_i x1), (2, q_i x2), (3, q_i x3), (4, q_i x4), (5, q_i x5)] [] m) {m : Mem} {x1 : Int32} {x2 : Int32} {x3 : Int32} {x5 : Int32} {s0 : Int32} (hF : B_X8_step_67 N rec_10 m x1 x2 x3 x5 s0 = some (r, m')) : AW K 0 67 [(0, q_r 70), (1, q_i x1), (2, q_i x2), (3, q_i x3), (5, q_i x5)] [q_i s0] m := by
  unfold B_X8_step_67 at hF
  refine aw_iconst hK (0) rfl dX8_step_67 ?_
  refine aw_sub [0, 1, 2, 3, 4] (lv' := [(0, q_r 70), (1, q_i x1), (2, q_i x2), (3, q_i x3), (5, q_i x5)]) rfl ?_
  exact bk_X8_step_68 hK hR hrec_10 hF
def S_X8_step_10 (N : Nat) (rec_10 : Mem → Int32 → Int32 → Int32 → Int32 → Int32 → Option (Int32 × Mem)) (m : Mem) (x1 : Int32) (x2 : Int32) (x3 : Int32) (x4 : Int32) (x5 : Int32) : Option (Int32 × Mem) :=
  gd (inb x1 (alen 74)) <|
  if (((160 : Int32) * x1) + (m 74 (ix x1))) ≤ x5 then (
    cal (F_X8_closed N m x1 x4) fun r5 m4 =>
    some (r5, m4)
  ) else (
    gd (inb x5 (alen 76)) <|
    if (m 76 (ix x5)) = x3 then (
      gd (inb x5 (alen 75)) <|
      if ((q_shr x2 (m 75 (ix x5))) &&& (1 : Int32)) = (1 : Int32) then (
        gd (inb x5 (alen 79)) <|
        B_X8_step_68 N rec_10 m x1 x2 x3 x5 (q_shl (1 : Int32) (m 79 (ix x5))) x4
      ) else (
        B_X8_step_67 N rec_10 m x1 x2 x3 x5 x4
      )
    ) else (
      B_X8_step_67 N rec_10 m x1 x2 x3 x5 x4
    )
  )
def L_X8_step_10 (N : Nat) : Nat → Mem → Int32 → Int32 → Int32 → Int32 → Int32 → Option (Int32 × Mem)
  | 0 => fun _ _ _ _ _ _ => none
  | f + 1 => S_X8_step_10 N (L_X8_step_10 N f)
set_option maxRecDepth 100000 in
set_option maxHeartbeats 4000000 in
theorem lp_X8_step_10 {N : Nat} {K : KT} {m' : Mem} {r : Int32} (hK : KOK K cX8_step 6 RX8 wsX8_step 1 0 25) (hR : KRet K (some .int) (some r) m') : ∀ (f : Nat) {m : Mem} {x1 : Int32} {x2 : Int32} {x3 : Int32} {x4 : Int32} {x5 : Int32}, L_X8_step_10 N f m x1 x2 x3 x4 x5 = some (r, m') → AW K 0 10 [(0, q_r 70), (1, q_i x1), (2, q_i x2), (3, q_i x3), (4, q_i x4), (5, q_i x5)] [] m := by
  intro f
  induction f with
  | zero => intro m x1 x2 x3 x4 x5 hF; cases hF
  | succ f hrec_10 =>
    intro m x1 x2 x3 x4 x5 hF
    have hF : S_X8_step_10 N (L_X8_step_10 N f) m x1 x2 x3 x4 x5 = some (r, m') := hF
    unfold S_X8_step_10 at hF
    refine aw_iload hK 5 rfl dX8_step_10 ?_
    refine aw_sipush hK (160) rfl dX8_step_12 ?_
    refine aw_iload_n hK 1 rfl dX8_step_15 ?_
    refine aw_imul hK dX8_step_16 ?_
    refine aw_aload_n hK 0 rfl dX8_step_17 ?_
    refine gf_8_5 hK rfl (74) rfl (List.mem_of_getElem? (i := 1) rfl) dX8_step_18 ?_
    refine aw_iload_n hK 1 rfl dX8_step_21 ?_
    obtain ⟨g2, hF⟩ := gd_some hF
    refine aw_iald hK rfl g2 dX8_step_22 ?_
    refine aw_iadd hK dX8_step_23 ?_
    refine aw_icmp_ge hK 77 rfl dX8_step_24 (fun hc => ?_) (fun hc => ?_)
    · have hF := if_t hF hc
      refine aw_aload_n hK 0 rfl dX8_step_77 ?_
      refine aw_iload_n hK 1 rfl dX8_step_78 ?_
      refine aw_iload hK 4 rfl dX8_step_79 ?_
      obtain ⟨r5, m4, h3, hF⟩ := cal_some hF
      refine aw_cv hK 8 (as := [q_i x1, q_i x4]) (tr_X8_closed h3) gX8_step_X8_closed rfl rfl rfl (by decide) (na := 2) (by decide +kernel) rfl ⟨by decide, by decide⟩ (Nat.zero_le _) (Nat.le_of_ble_eq_true rfl) dX8_step_81 ?_
      obtain ⟨rfl, rfl⟩ := so_inj hF
      exact aw_iret hK hR rfl dX8_step_84
    · have hF := if_f hF hc
      refine aw_iload hK 4 rfl dX8_step_27 ?_
      refine aw_aload_n hK 0 rfl dX8_step_29 ?_
      refine gf_8_7 hK rfl (76) rfl (List.mem_of_getElem? (i := 2) rfl) dX8_step_30 ?_
      refine aw_iload hK 5 rfl dX8_step_33 ?_
      obtain ⟨g6, hF⟩ := gd_some hF
      refine aw_iald hK rfl g6 dX8_step_35 ?_
      refine aw_iload_n hK 3 rfl dX8_step_36 ?_
      refine aw_icmp_ne hK 67 rfl dX8_step_37 (fun hc => ?_) (fun hc => ?_)
      · have hF := if_f hF hc
        refine aw_sub [0, 1, 2, 3, 5] (lv' := [(0, q_r 70), (1, q_i x1), (2, q_i x2), (3, q_i x3), (5, q_i x5)]) rfl ?_
        exact bk_X8_step_67 hK hR hrec_10 hF
      · have hF := if_t hF hc
        refine aw_iload_n hK 2 rfl dX8_step_40 ?_
        refine aw_aload_n hK 0 rfl dX8_step_41 ?_
        refine gf_8_6 hK rfl (75) rfl (List.mem_of_getElem? (i := 3) rfl) dX8_step_42 ?_
        refine aw_iload hK 5 rfl dX8_step_45 ?_
        obtain ⟨g7, hF⟩ := gd_some hF
        refine aw_iald hK rfl g7 dX8_step_47 ?_
        refine aw_ishr hK dX8_step_48 ?_
        refine aw_iconst hK (1) rfl dX8_step_49 ?_
        refine aw_iand hK dX8_step_50 ?_
        refine aw_iconst hK (1) rfl dX8_step_51 ?_
        refine aw_icmp_ne hK 67 rfl dX8_step_52 (fun hc => ?_) (fun hc => ?_)
        · have hF := if_f hF hc
          refine aw_sub [0, 1, 2, 3, 5] (lv' := [(0, q_r 70), (1, q_i x1), (2, q_i x2), (3, q_i x3), (5, q_i x5)]) rfl ?_
          exact bk_X8_step_67 hK hR hrec_10 hF
        · have hF := if_t hF hc
          refine aw_iconst hK (1) rfl dX8_step_55 ?_
          refine aw_aload_n hK 0 rfl dX8_step_56 ?_
          refine gf_8_10 hK rfl (79) rfl (List.mem_of_getElem? (i := 4) rfl) dX8_step_57 ?_
          refine aw_iload hK 5 rfl dX8_step_60 ?_
          obtain ⟨g8, hF⟩ := gd_some hF
          refine aw_iald hK rfl g8 dX8_step_62 ?_
          refine aw_ishl hK dX8_step_63 ?_
          refine aw_goto hK 68 rfl dX8_step_64 ?_
          refine aw_sub [0, 1, 2, 3, 5] (lv' := [(0, q_r 70), (1, q_i x1), (2, q_i x2), (3, q_i x3), (5, q_i x5)]) rfl ?_
          exact bk_X8_step_68 hK hR hrec_10 hF
def F_X8_step (N : Nat) (m : Mem) (x1 : Int32) (x2 : Int32) (x3 : Int32) : Option (Int32 × Mem) :=
  bnd ((160 : Int32) * x1) fun y1 =>
  L_X8_step_10 N N m x1 x2 x3 (0 : Int32) y1
set_option maxRecDepth 100000 in
set_option maxHeartbeats 4000000 in
theorem tr_X8_step {N : Nat} {m m' : Mem} {r : Int32} {x1 : Int32} {x2 : Int32} {x3 : Int32} (hF : F_X8_step N m x1 x2 x3 = some (r, m')) : Tr yX8_step wsX8_step 1 25 [q_r 70, q_i x1, q_i x2, q_i x3] m (some r) m' := by
  refine tr_of (bytes := cX8_step) (maxL := 6) (ret := (some .int)) (by decide) rfl (Nat.le_of_ble_eq_true rfl) (fun K hK hR => ?_)
  have hK : KOK K cX8_step 6 RX8 wsX8_step 1 0 25 := hK
  show AW K 0 0 [(0, q_r 70), (1, q_i x1), (2, q_i x2), (3, q_i x3)] [] m
  unfold F_X8_step at hF
  refine aw_iconst hK (0) rfl dX8_step_0 ?_
  refine aw_istore hK [(4, q_i (0 : Int32)), (0, q_r 70), (1, q_i x1), (2, q_i x2), (3, q_i x3)] (by decide) rfl dX8_step_1 ?_
  refine aw_sipush hK (160) rfl dX8_step_3 ?_
  refine aw_iload_n hK 2 rfl dX8_step_6 ?_
  refine aw_imul hK dX8_step_7 ?_
  obtain ⟨y1, hy1, hF⟩ := bnd_some hF
  refine aw_nm hy1 ?_
  refine aw_istore hK [(5, q_i y1), (4, q_i (0 : Int32)), (0, q_r 70), (1, q_i x1), (2, q_i x2), (3, q_i x3)] (by decide) rfl dX8_step_8 ?_
  refine aw_sub [2, 3, 4, 5, 1, 0] (lv' := [(0, q_r 70), (1, q_i x1), (2, q_i x2), (3, q_i x3), (4, q_i (0 : Int32)), (5, q_i y1)]) rfl ?_
  exact lp_X8_step_10 hK hR _ hF
def B_X8_placeOf_37 (N : Nat) (rec_3 : Mem → Int32 → Int32 → Int32 → Int32 → Int32 → Option (Int32 × Mem)) (m : Mem) (x1 : Int32) (x2 : Int32) (x3 : Int32) (x4 : Int32) (x5 : Int32) : Option (Int32 × Mem) :=
  bnd (x5 + (1 : Int32)) fun y12 =>
  rec_3 m x1 x2 x3 x4 y12
set_option maxRecDepth 100000 in
set_option maxHeartbeats 4000000 in
theorem bk_X8_placeOf_37 {N : Nat} {K : KT} {m' : Mem} {rec_3 : Mem → Int32 → Int32 → Int32 → Int32 → Int32 → Option (Int32 × Mem)} {r : Int32} (hK : KOK K cX8_placeOf 6 RX8 wsX8_placeOf 0 0 0) (hR : KRet K (some .int) (some r) m') (hrec_3 : ∀ {m : Mem} {x1 : Int32} {x2 : Int32} {x3 : Int32} {x4 : Int32} {x5 : Int32}, rec_3 m x1 x2 x3 x4 x5 = some (r, m') → AW K 0 3 [(0, q_r 70), (1, q_i x1), (2, q_i x2), (3, q_i x3), (4, q_i x4), (5, q_i x5)] [] m) {m : Mem} {x1 : Int32} {x2 : Int32} {x3 : Int32} {x4 : Int32} {x5 : Int32} (hF : B_X8_placeOf_37 N rec_3 m x1 x2 x3 x4 x5 = some (r, m')) : AW K 0 37 [(0, q_r 70), (1, q_i x1), (2, q_i x2), (3, q_i x3), (4, q_i x4), (5, q_i x5)] [] m := by
  unfold B_X8_placeOf_37 at hF
  obtain ⟨y12, hy12, hF⟩ := bnd_some hF
  refine aw_iinc hK (cz := 1) 5 [(5, q_i y12), (0, q_r 70), (1, q_i x1), (2, q_i x2), (3, q_i x3), (4, q_i x4)] (by decide) rfl rfl hy12 rfl dX8_placeOf_37 ?_
  refine aw_goto hK 3 rfl dX8_placeOf_40 ?_
  refine aw_sub [1, 2, 3, 4, 5, 0] (lv' := [(0, q_r 70), (1, q_i x1), (2, q_i x2), (3, q_i x3), (4, q_i x4), (5, q_i y12)]) rfl ?_
  exact hrec_3 hF
def S_X8_placeOf_3 (N : Nat) (rec_3 : Mem → Int32 → Int32 → Int32 → Int32 → Int32 → Option (Int32 × Mem)) (m : Mem) (x1 : Int32) (x2 : Int32) (x3 : Int32) (x4 : Int32) (x5 : Int32) : Option (Int32 × Mem) :=
  if (m 70 35) ≤ x5 then (
    if (m 70 35) = (200 : Int32) then (
      some ((-1 : Int32), m)
    ) else (
      gd (inb (m 70 35) (alen 92)) <|
      bnd (mup m 92 (ix (m 70 35)) x1) fun m2 =>
      gd (inb (m2 70 35) (alen 93)) <|
      bnd (mup m2 93 (ix (m2 70 35)) x2) fun m4 =>
      gd (inb (m4 70 35) (alen 95)) <|
      bnd (mup m4 95 (ix (m4 70 35)) x3) fun m6 =>
      gd (inb (m6 70 35) (alen 96)) <|
      bnd (mup m6 96 (ix (m6 70 35)) x4) fun m8 =>
      bnd (mup m8 70 35 ((m8 70 35) + (1 : Int32))) fun m9 =>
      some ((m9 70 35) - (1 : Int32), m9)
    )
  ) else (
    gd (inb x5 (alen 92)) <|
    if (m 92 (ix x5)) = x1 then (
      gd (inb x5 (alen 93)) <|
      if (m 93 (ix x5)) = x2 then (
        some (x5, m)
      ) else (
        B_X8_placeOf_37 N rec_3 m x1 x2 x3 x4 x5
      )
    ) else (
      B_X8_placeOf_37 N rec_3 m x1 x2 x3 x4 x5
    )
  )
def L_X8_placeOf_3 (N : Nat) : Nat → Mem → Int32 → Int32 → Int32 → Int32 → Int32 → Option (Int32 × Mem)
  | 0 => fun _ _ _ _ _ _ => none
  | f + 1 => S_X8_placeOf_3 N (L_X8_placeOf_3 N f)
set_option maxRecDepth 100000 in
set_option maxHeartbeats 4000000 in
theorem lp_X8_placeOf_3 {N : Nat} {K : KT} {m' : Mem} {r : Int32} (hK : KOK K cX8_placeOf 6 RX8 wsX8_placeOf 0 0 0) (hR : KRet K (some .int) (some r) m') : ∀ (f : Nat) {m : Mem} {x1 : Int32} {x2 : Int32} {x3 : Int32} {x4 : Int32} {x5 : Int32}, L_X8_placeOf_3 N f m x1 x2 x3 x4 x5 = some (r, m') → AW K 0 3 [(0, q_r 70), (1, q_i x1), (2, q_i x2), (3, q_i x3), (4, q_i x4), (5, q_i x5)] [] m := by
  intro f
  induction f with
  | zero => intro m x1 x2 x3 x4 x5 hF; cases hF
  | succ f hrec_3 =>
    intro m x1 x2 x3 x4 x5 hF
    have hF : S_X8_placeOf_3 N (L_X8_placeOf_3 N f) m x1 x2 x3 x4 x5 = some (r, m') := hF
    unfold S_X8_placeOf_3 at hF
    refine aw_iload hK 5 rfl dX8_placeOf_3 ?_
    refine aw_aload_n hK 0 rfl dX8_placeOf_5 ?_
    refine gf_8_35 hK rfl (List.mem_of_getElem? (i := 1) rfl) dX8_placeOf_6 ?_
    refine aw_icmp_ge hK 43 rfl dX8_placeOf_9 (fun hc => ?_) (fun hc => ?_)
    · have hF := if_t hF hc
      refine aw_aload_n hK 0 rfl dX8_placeOf_43 ?_
      refine gf_8_35 hK rfl (List.mem_of_getElem? (i := 1) rfl) dX8_placeOf_44 ?_
      refine aw_sipush hK (200) rfl dX8_placeOf_47 ?_
      refine aw_icmp_ne hK 55 rfl dX8_placeOf_50 (fun hc => ?_) (fun hc => ?_)
      · have hF := if_f hF hc
        refine aw_aload_n hK 0 rfl dX8_placeOf_55 ?_
        refine gf_8_28 hK rfl (92) rfl (List.mem_of_getElem? (i := 2) rfl) dX8_placeOf_56 ?_
        refine aw_aload_n hK 0 rfl dX8_placeOf_59 ?_
        refine gf_8_35 hK rfl (List.mem_of_getElem? (i := 1) rfl) dX8_placeOf_60 ?_
        refine aw_iload_n hK 1 rfl dX8_placeOf_63 ?_
        obtain ⟨g1, hF⟩ := gd_some hF
        refine aw_iast hK rfl g1 dX8_placeOf_64 ?_
        obtain ⟨m2, hm2, hF⟩ := bnd_some hF
        refine aw_mm hm2 ?_
        refine aw_aload_n hK 0 rfl dX8_placeOf_65 ?_
        refine gf_8_29 hK rfl (93) rfl (List.mem_of_getElem? (i := 3) rfl) dX8_placeOf_66 ?_
        refine aw_aload_n hK 0 rfl dX8_placeOf_69 ?_
        refine gf_8_35 hK rfl (List.mem_of_getElem? (i := 1) rfl) dX8_placeOf_70 ?_
        refine aw_iload_n hK 2 rfl dX8_placeOf_73 ?_
        obtain ⟨g3, hF⟩ := gd_some hF
        refine aw_iast hK rfl g3 dX8_placeOf_74 ?_
        obtain ⟨m4, hm4, hF⟩ := bnd_some hF
        refine aw_mm hm4 ?_
        refine aw_aload_n hK 0 rfl dX8_placeOf_75 ?_
        refine gf_8_31 hK rfl (95) rfl (List.mem_of_getElem? (i := 4) rfl) dX8_placeOf_76 ?_
        refine aw_aload_n hK 0 rfl dX8_placeOf_79 ?_
        refine gf_8_35 hK rfl (List.mem_of_getElem? (i := 1) rfl) dX8_placeOf_80 ?_
        refine aw_iload_n hK 3 rfl dX8_placeOf_83 ?_
        obtain ⟨g5, hF⟩ := gd_some hF
        refine aw_iast hK rfl g5 dX8_placeOf_84 ?_
        obtain ⟨m6, hm6, hF⟩ := bnd_some hF
        refine aw_mm hm6 ?_
        refine aw_aload_n hK 0 rfl dX8_placeOf_85 ?_
        refine gf_8_32 hK rfl (96) rfl (List.mem_of_getElem? (i := 5) rfl) dX8_placeOf_86 ?_
        refine aw_aload_n hK 0 rfl dX8_placeOf_89 ?_
        refine gf_8_35 hK rfl (List.mem_of_getElem? (i := 1) rfl) dX8_placeOf_90 ?_
        refine aw_iload hK 4 rfl dX8_placeOf_93 ?_
        obtain ⟨g7, hF⟩ := gd_some hF
        refine aw_iast hK rfl g7 dX8_placeOf_95 ?_
        obtain ⟨m8, hm8, hF⟩ := bnd_some hF
        refine aw_mm hm8 ?_
        refine aw_aload_n hK 0 rfl dX8_placeOf_96 ?_
        refine aw_dup hK rfl dX8_placeOf_97 ?_
        refine gf_8_35 hK rfl (List.mem_of_getElem? (i := 1) rfl) dX8_placeOf_98 ?_
        refine aw_iconst hK (1) rfl dX8_placeOf_101 ?_
        refine aw_iadd hK dX8_placeOf_102 ?_
        refine pf_8_35 hK rfl (List.mem_of_getElem? (i := 1) rfl) dX8_placeOf_103 ?_
        obtain ⟨m9, hm9, hF⟩ := bnd_some hF
        refine aw_mm hm9 ?_
        refine aw_aload_n hK 0 rfl dX8_placeOf_106 ?_
        refine gf_8_35 hK rfl (List.mem_of_getElem? (i := 1) rfl) dX8_placeOf_107 ?_
        refine aw_iconst hK (1) rfl dX8_placeOf_110 ?_
        refine aw_isub hK dX8_placeOf_111 ?_
        obtain ⟨rfl, rfl⟩ := so_inj hF
        exact aw_iret hK hR rfl dX8_placeOf_112
      · have hF := if_t hF hc
        refine aw_iconst hK (-1) rfl dX8_placeOf_53 ?_
        obtain ⟨rfl, rfl⟩ := so_inj hF
        exact aw_iret hK hR rfl dX8_placeOf_54
    · have hF := if_f hF hc
      refine aw_aload_n hK 0 rfl dX8_placeOf_12 ?_
      refine gf_8_28 hK rfl (92) rfl (List.mem_of_getElem? (i := 2) rfl) dX8_placeOf_13 ?_
      refine aw_iload hK 5 rfl dX8_placeOf_16 ?_
      obtain ⟨g10, hF⟩ := gd_some hF
      refine aw_iald hK rfl g10 dX8_placeOf_18 ?_
      refine aw_iload_n hK 1 rfl dX8_placeOf_19 ?_
      refine aw_icmp_ne hK 37 rfl dX8_placeOf_20 (fun hc => ?_) (fun hc => ?_)
      · have hF := if_f hF hc
        refine aw_sub [0, 1, 2, 3, 4, 5] (lv' := [(0, q_r 70), (1, q_i x1), (2, q_i x2), (3, q_i x3), (4, q_i x4), (5, q_i x5)]) rfl ?_
        exact bk_X8_placeOf_37 hK hR hrec_3 hF
      · have hF := if_t hF hc
        refine aw_aload_n hK 0 rfl dX8_placeOf_23 ?_
        refine gf_8_29 hK rfl (93) rfl (List.mem_of_getElem? (i := 3) rfl) dX8_placeOf_24 ?_
        refine aw_iload hK 5 rfl dX8_placeOf_27 ?_
        obtain ⟨g11, hF⟩ := gd_some hF
        refine aw_iald hK rfl g11 dX8_placeOf_29 ?_
        refine aw_iload_n hK 2 rfl dX8_placeOf_30 ?_
        refine aw_icmp_ne hK 37 rfl dX8_placeOf_31 (fun hc => ?_) (fun hc => ?_)
        · have hF := if_f hF hc
          refine aw_sub [0, 1, 2, 3, 4, 5] (lv' := [(0, q_r 70), (1, q_i x1), (2, q_i x2), (3, q_i x3), (4, q_i x4), (5, q_i x5)]) rfl ?_
          exact bk_X8_placeOf_37 hK hR hrec_3 hF
        · have hF := if_t hF hc
          refine aw_iload hK 5 rfl dX8_placeOf_34 ?_
          obtain ⟨rfl, rfl⟩ := so_inj hF
          exact aw_iret hK hR rfl dX8_placeOf_36
def F_X8_placeOf (N : Nat) (m : Mem) (x1 : Int32) (x2 : Int32) (x3 : Int32) (x4 : Int32) : Option (Int32 × Mem) :=
  L_X8_placeOf_3 N N m x1 x2 x3 x4 (0 : Int32)
set_option maxRecDepth 100000 in
set_option maxHeartbeats 4000000 in
theorem tr_X8_placeOf {N : Nat} {m m' : Mem} {r : Int32} {x1 : Int32} {x2 : Int32} {x3 : Int32} {x4 : Int32} (hF : F_X8_placeOf N m x1 x2 x3 x4 = some (r, m')) : Tr yX8_placeOf wsX8_placeOf 0 0 [q_r 70, q_i x1, q_i x2, q_i x3, q_i x4] m (some r) m' := by
  refine tr_of (bytes := cX8_placeOf) (maxL := 6) (ret := (some .int)) (by decide) rfl (Nat.le_of_ble_eq_true rfl) (fun K hK hR => ?_)
  have hK : KOK K cX8_placeOf 6 RX8 wsX8_placeOf 0 0 0 := hK
  show AW K 0 0 [(0, q_r 70), (1, q_i x1), (2, q_i x2), (3, q_i x3), (4, q_i x4)] [] m
  unfold F_X8_placeOf at hF
  refine aw_iconst hK (0) rfl dX8_placeOf_0 ?_
  refine aw_istore hK [(5, q_i (0 : Int32)), (0, q_r 70), (1, q_i x1), (2, q_i x2), (3, q_i x3), (4, q_i x4)] (by decide) rfl dX8_placeOf_1 ?_
  refine aw_sub [1, 2, 3, 4, 5, 0] (lv' := [(0, q_r 70), (1, q_i x1), (2, q_i x2), (3, q_i x3), (4, q_i x4), (5, q_i (0 : Int32))]) rfl ?_
  exact lp_X8_placeOf_3 hK hR _ hF
def P_X8_isKept (x0 : Int32) (x1 : Int32) (x2 : Int32) : Int32 :=
  if x0 = (1 : Int32) then (
    if x1 = (0 : Int32) then (
      (0 : Int32)
    ) else (
      if x2 = (0 : Int32) then (
        (0 : Int32)
      ) else (
        (1 : Int32)
      )
    )
  ) else (
    if x0 = (3 : Int32) then (
      if x1 = (0 : Int32) then (
        if x2 = (0 : Int32) then (
          (0 : Int32)
        ) else (
          (1 : Int32)
        )
      ) else (
        (1 : Int32)
      )
    ) else (
      if x1 = (0 : Int32) then (
        (0 : Int32)
      ) else (
        (1 : Int32)
      )
    )
  )
def F_X8_isKept (m : Mem) (x0 : Int32) (x1 : Int32) (x2 : Int32) : Option (Int32 × Mem) :=
  if x0 = (1 : Int32) then (
    if x1 = (0 : Int32) then (
      some ((0 : Int32), m)
    ) else (
      if x2 = (0 : Int32) then (
        some ((0 : Int32), m)
      ) else (
        some ((1 : Int32), m)
      )
    )
  ) else (
    if x0 = (3 : Int32) then (
      if x1 = (0 : Int32) then (
        if x2 = (0 : Int32) then (
          some ((0 : Int32), m)
        ) else (
          some ((1 : Int32), m)
        )
      ) else (
        some ((1 : Int32), m)
      )
    ) else (
      if x1 = (0 : Int32) then (
        some ((0 : Int32), m)
      ) else (
        some ((1 : Int32), m)
      )
    )
  )
set_option maxRecDepth 100000 in
set_option maxHeartbeats 4000000 in
theorem tr_X8_isKept {m m' : Mem} {r : Int32} {x0 : Int32} {x1 : Int32} {x2 : Int32} (hF : F_X8_isKept m x0 x1 x2 = some (r, m')) : Tr yX8_isKept wsX8_isKept 0 0 [q_i x0, q_i x1, q_i x2] m (some r) m' := by
  refine tr_of (bytes := cX8_isKept) (maxL := 3) (ret := (some .boolean)) (by decide) rfl (Nat.le_of_ble_eq_true rfl) (fun K hK hR => ?_)
  have hK : KOK K cX8_isKept 3 RX8 wsX8_isKept 0 0 0 := hK
  show AW K 0 0 [(0, q_i x0), (1, q_i x1), (2, q_i x2)] [] m
  unfold F_X8_isKept at hF
  refine aw_iload_n hK 0 rfl dX8_isKept_0 ?_
  refine aw_iconst hK (1) rfl dX8_isKept_1 ?_
  refine aw_icmp_ne hK 21 rfl dX8_isKept_2 (fun hc => ?_) (fun hc => ?_)
  · have hF := if_f hF hc
    refine aw_iload_n hK 0 rfl dX8_isKept_21 ?_
    refine aw_iconst hK (3) rfl dX8_isKept_22 ?_
    refine aw_icmp_ne hK 42 rfl dX8_isKept_23 (fun hc => ?_) (fun hc => ?_)
    · have hF := if_f hF hc
      refine aw_iload_n hK 1 rfl dX8_isKept_42 ?_
      refine aw_if_eq hK 50 rfl dX8_isKept_43 (fun hc => ?_) (fun hc => ?_)
      · have hF := if_t hF hc
        refine aw_iconst hK (0) rfl dX8_isKept_50 ?_
        obtain ⟨rfl, rfl⟩ := so_inj hF
        exact aw_iret hK hR rfl dX8_isKept_51
      · have hF := if_f hF hc
        refine aw_iconst hK (1) rfl dX8_isKept_46 ?_
        refine aw_goto hK 51 rfl dX8_isKept_47 ?_
        obtain ⟨rfl, rfl⟩ := so_inj hF
        exact aw_iret hK hR rfl dX8_isKept_51
    · have hF := if_t hF hc
      refine aw_iload_n hK 1 rfl dX8_isKept_26 ?_
      refine aw_if_ne hK 34 rfl dX8_isKept_27 (fun hc => ?_) (fun hc => ?_)
      · have hF := if_f hF hc
        refine aw_iconst hK (1) rfl dX8_isKept_34 ?_
        refine aw_goto hK 51 rfl dX8_isKept_35 ?_
        obtain ⟨rfl, rfl⟩ := so_inj hF
        exact aw_iret hK hR rfl dX8_isKept_51
      · have hF := if_t hF hc
        refine aw_iload_n hK 2 rfl dX8_isKept_30 ?_
        refine aw_if_eq hK 38 rfl dX8_isKept_31 (fun hc => ?_) (fun hc => ?_)
        · have hF := if_t hF hc
          refine aw_iconst hK (0) rfl dX8_isKept_38 ?_
          refine aw_goto hK 51 rfl dX8_isKept_39 ?_
          obtain ⟨rfl, rfl⟩ := so_inj hF
          exact aw_iret hK hR rfl dX8_isKept_51
        · have hF := if_f hF hc
          refine aw_iconst hK (1) rfl dX8_isKept_34 ?_
          refine aw_goto hK 51 rfl dX8_isKept_35 ?_
          obtain ⟨rfl, rfl⟩ := so_inj hF
          exact aw_iret hK hR rfl dX8_isKept_51
  · have hF := if_t hF hc
    refine aw_iload_n hK 1 rfl dX8_isKept_5 ?_
    refine aw_if_eq hK 17 rfl dX8_isKept_6 (fun hc => ?_) (fun hc => ?_)
    · have hF := if_t hF hc
      refine aw_iconst hK (0) rfl dX8_isKept_17 ?_
      refine aw_goto hK 51 rfl dX8_isKept_18 ?_
      obtain ⟨rfl, rfl⟩ := so_inj hF
      exact aw_iret hK hR rfl dX8_isKept_51
    · have hF := if_f hF hc
      refine aw_iload_n hK 2 rfl dX8_isKept_9 ?_
      refine aw_if_eq hK 17 rfl dX8_isKept_10 (fun hc => ?_) (fun hc => ?_)
      · have hF := if_t hF hc
        refine aw_iconst hK (0) rfl dX8_isKept_17 ?_
        refine aw_goto hK 51 rfl dX8_isKept_18 ?_
        obtain ⟨rfl, rfl⟩ := so_inj hF
        exact aw_iret hK hR rfl dX8_isKept_51
      · have hF := if_f hF hc
        refine aw_iconst hK (1) rfl dX8_isKept_13 ?_
        refine aw_goto hK 51 rfl dX8_isKept_14 ?_
        obtain ⟨rfl, rfl⟩ := so_inj hF
        exact aw_iret hK hR rfl dX8_isKept_51
theorem pb_X8_isKept (x0 : Int32) (x1 : Int32) (x2 : Int32) : isb (P_X8_isKept x0 x1 x2) = true := by
  simp only [P_X8_isKept]
  repeat (first | rfl | split)
theorem fp_X8_isKept (m : Mem) (x0 : Int32) (x1 : Int32) (x2 : Int32) : F_X8_isKept m x0 x1 x2 = some (P_X8_isKept x0 x1 x2, m) := by
  simp only [F_X8_isKept, P_X8_isKept]
  repeat (first | rfl | split)
theorem trp_X8_isKept (x0 : Int32) (x1 : Int32) (x2 : Int32) (m : Mem) : Tr yX8_isKept wsX8_isKept 0 0 [q_i x0, q_i x1, q_i x2] m (some (P_X8_isKept x0 x1 x2)) m := tr_X8_isKept (fp_X8_isKept m x0 x1 x2)
def B_X8_looks_199 (N : Nat) (m : Mem) (x4 : Int32) : Option (Int32 × Mem) :=
  gd (isb x4) <|
  some (x4, m)
set_option maxRecDepth 100000 in
set_option maxHeartbeats 4000000 in
theorem bk_X8_looks_199 {N : Nat} {K : KT} {m' : Mem} {r : Int32} (hK : KOK K cX8_looks 9 RX8 wsX8_looks 2 0 50) (hR : KRet K (some .boolean) (some r) m') {m : Mem} {x4 : Int32} (hF : B_X8_looks_199 N m x4 = some (r, m')) : AW K 0 199 [(4, q_i x4)] [] m := by
  unfold B_X8_looks_199 at hF
  refine aw_iload hK 0 rfl dX8_looks_199 ?_
  obtain ⟨g29, hF⟩ := gd_some hF
  obtain ⟨rfl, rfl⟩ := so_inj hF
  exact aw_iret hK hR (isb_narrow g29) dX8_looks_201
def B_X8_looks_193 (N : Nat) (rec_44 : Mem → Int32 → Int32 → Int32 → Int32 → Int32 → Option (Int32 × Mem)) (m : Mem) (x1 : Int32) (x2 : Int32) (x3 : Int32) (x4 : Int32) (x5 : Int32) : Option (Int32 × Mem) :=
  bnd (x5 + (1 : Int32)) fun y28 =>
  rec_44 m x1 x2 x3 x4 y28
set_option maxRecDepth 100000 in
set_option maxHeartbeats 4000000 in
theorem bk_X8_looks_193 {N : Nat} {K : KT} {m' : Mem} {rec_44 : Mem → Int32 → Int32 → Int32 → Int32 → Int32 → Option (Int32 × Mem)} {r : Int32} (hK : KOK K cX8_looks 9 RX8 wsX8_looks 2 0 50) (hR : KRet K (some .boolean) (some r) m') (hrec_44 : ∀ {m : Mem} {x1 : Int32} {x2 : Int32} {x3 : Int32} {x4 : Int32} {x5 : Int32}, rec_44 m x1 x2 x3 x4 x5 = some (r, m') → AW K 0 44 [(0, q_r 70), (1, q_i x1), (2, q_i x2), (3, q_i x3), (4, q_i x4), (5, q_i x5)] [] m) {m : Mem} {x1 : Int32} {x2 : Int32} {x3 : Int32} {x4 : Int32} {x5 : Int32} (hF : B_X8_looks_193 N rec_44 m x1 x2 x3 x4 x5 = some (r, m')) : AW K 0 193 [(0, q_r 70), (1, q_i x1), (2, q_i x2), (3, q_i x3), (4, q_i x4), (5, q_i x5)] [] m := by
  unfold B_X8_looks_193 at hF
  obtain ⟨y28, hy28, hF⟩ := bnd_some hF
  refine aw_iinc hK (cz := 1) 5 [(5, q_i y28), (0, q_r 70), (1, q_i x1), (2, q_i x2), (3, q_i x3), (4, q_i x4)] (by decide) rfl rfl hy28 rfl dX8_looks_193 ?_
  refine aw_goto hK 44 rfl dX8_looks_196 ?_
  refine aw_sub [1, 2, 3, 4, 5, 0] (lv' := [(0, q_r 70), (1, q_i x1), (2, q_i x2), (3, q_i x3), (4, q_i x4), (5, q_i y28)]) rfl ?_
  exact hrec_44 hF
def B_X8_looks_187 (N : Nat) (rec_44 : Mem → Int32 → Int32 → Int32 → Int32 → Int32 → Option (Int32 × Mem)) (rec_61 : Mem → Int32 → Int32 → Int32 → Int32 → Int32 → Int32 → Option (Int32 × Mem)) (m : Mem) (x1 : Int32) (x2 : Int32) (x3 : Int32) (x4 : Int32) (x5 : Int32) (x6 : Int32) : Option (Int32 × Mem) :=
  bnd (x6 + (1 : Int32)) fun y27 =>
  rec_61 m x1 x2 x3 x4 x5 y27
set_option maxRecDepth 100000 in
set_option maxHeartbeats 4000000 in
theorem bk_X8_looks_187 {N : Nat} {K : KT} {m' : Mem} {rec_44 : Mem → Int32 → Int32 → Int32 → Int32 → Int32 → Option (Int32 × Mem)} {rec_61 : Mem → Int32 → Int32 → Int32 → Int32 → Int32 → Int32 → Option (Int32 × Mem)} {r : Int32} (hK : KOK K cX8_looks 9 RX8 wsX8_looks 2 0 50) (hR : KRet K (some .boolean) (some r) m') (hrec_44 : ∀ {m : Mem} {x1 : Int32} {x2 : Int32} {x3 : Int32} {x4 : Int32} {x5 : Int32}, rec_44 m x1 x2 x3 x4 x5 = some (r, m') → AW K 0 44 [(0, q_r 70), (1, q_i x1), (2, q_i x2), (3, q_i x3), (4, q_i x4), (5, q_i x5)] [] m) (hrec_61 : ∀ {m : Mem} {x1 : Int32} {x2 : Int32} {x3 : Int32} {x4 : Int32} {x5 : Int32} {x6 : Int32}, rec_61 m x1 x2 x3 x4 x5 x6 = some (r, m') → AW K 0 61 [(0, q_r 70), (1, q_i x1), (2, q_i x2), (3, q_i x3), (4, q_i x4), (5, q_i x5), (6, q_i x6)] [] m) {m : Mem} {x1 : Int32} {x2 : Int32} {x3 : Int32} {x4 : Int32} {x5 : Int32} {x6 : Int32} (hF : B_X8_looks_187 N rec_44 rec_61 m x1 x2 x3 x4 x5 x6 = some (r, m')) : AW K 0 187 [(0, q_r 70), (1, q_i x1), (2, q_i x2), (3, q_i x3), (4, q_i x4), (5, q_i x5), (6, q_i x6)] [] m := by
  unfold B_X8_looks_187 at hF
  obtain ⟨y27, hy27, hF⟩ := bnd_some hF
  refine aw_iinc hK (cz := 1) 6 [(6, q_i y27), (0, q_r 70), (1, q_i x1), (2, q_i x2), (3, q_i x3), (4, q_i x4), (5, q_i x5)] (by decide) rfl rfl hy27 rfl dX8_looks_187 ?_
  refine aw_goto hK 61 rfl dX8_looks_190 ?_
  refine aw_sub [1, 2, 3, 4, 5, 6, 0] (lv' := [(0, q_r 70), (1, q_i x1), (2, q_i x2), (3, q_i x3), (4, q_i x4), (5, q_i x5), (6, q_i y27)]) rfl ?_
  exact hrec_61 hF
def B_X8_looks_185 (N : Nat) (rec_44 : Mem → Int32 → Int32 → Int32 → Int32 → Int32 → Option (Int32 × Mem)) (rec_61 : Mem → Int32 → Int32 → Int32 → Int32 → Int32 → Int32 → Option (Int32 × Mem)) (m : Mem) (x1 : Int32) (x2 : Int32) (x3 : Int32) (x5 : Int32) (x6 : Int32) (s0 : Int32) : Option (Int32 × Mem) :=
  B_X8_looks_187 N rec_44 rec_61 m x1 x2 x3 s0 x5 x6
set_option maxRecDepth 100000 in
set_option maxHeartbeats 4000000 in
theorem bk_X8_looks_185 {N : Nat} {K : KT} {m' : Mem} {rec_44 : Mem → Int32 → Int32 → Int32 → Int32 → Int32 → Option (Int32 × Mem)} {rec_61 : Mem → Int32 → Int32 → Int32 → Int32 → Int32 → Int32 → Option (Int32 × Mem)} {r : Int32} (hK : KOK K cX8_looks 9 RX8 wsX8_looks 2 0 50) (hR : KRet K (some .boolean) (some r) m') (hrec_44 : ∀ {m : Mem} {x1 : Int32} {x2 : Int32} {x3 : Int32} {x4 : Int32} {x5 : Int32}, rec_44 m x1 x2 x3 x4 x5 = some (r, m') → AW K 0 44 [(0, q_r 70), (1, q_i x1), (2, q_i x2), (3, q_i x3), (4, q_i x4), (5, q_i x5)] [] m) (hrec_61 : ∀ {m : Mem} {x1 : Int32} {x2 : Int32} {x3 : Int32} {x4 : Int32} {x5 : Int32} {x6 : Int32}, rec_61 m x1 x2 x3 x4 x5 x6 = some (r, m') → AW K 0 61 [(0, q_r 70), (1, q_i x1), (2, q_i x2), (3, q_i x3), (4, q_i x4), (5, q_i x5), (6, q_i x6)] [] m) {m : Mem} {x1 : Int32} {x2 : Int32} {x3 : Int32} {x5 : Int32} {x6 : Int32} {s0 : Int32} (hF : B_X8_looks_185 N rec_44 rec_61 m x1 x2 x3 x5 x6 s0 = some (r, m')) : AW K 0 185 [(0, q_r 70), (1, q_i x1), (2, q_i x2), (3, q_i x3), (5, q_i x5), (6, q_i x6)] [q_i s0] m := by
  unfold B_X8_looks_185 at hF
  refine aw_istore hK [(4, q_i s0), (0, q_r 70), (1, q_i x1), (2, q_i x2), (3, q_i x3), (5, q_i x5), (6, q_i x6)] (by decide) rfl dX8_looks_185 ?_
  refine aw_sub [1, 2, 3, 4, 0, 5, 6] (lv' := [(0, q_r 70), (1, q_i x1), (2, q_i x2), (3, q_i x3), (4, q_i s0), (5, q_i x5), (6, q_i x6)]) rfl ?_
  exact bk_X8_looks_187 hK hR hrec_44 hrec_61 hF
def B_X8_looks_111 (N : Nat) (rec_44 : Mem → Int32 → Int32 → Int32 → Int32 → Int32 → Option (Int32 × Mem)) (rec_61 : Mem → Int32 → Int32 → Int32 → Int32 → Int32 → Int32 → Option (Int32 × Mem)) (m : Mem) (x1 : Int32) (x2 : Int32) (x3 : Int32) (x4 : Int32) (x5 : Int32) (x6 : Int32) (x7 : Int32) (s0 : Int32) : Option (Int32 × Mem) :=
  gd (inb (((8 : Int32) * x5) + x6) (alen 94)) <|
  bnd (mup m 94 (ix (((8 : Int32) * x5) + x6)) (-1 : Int32)) fun m20 =>
  if (P_X8_isKept x3 x7 s0) = (0 : Int32) then (
    B_X8_looks_187 N rec_44 rec_61 m20 x1 x2 x3 x4 x5 x6
  ) else (
    cal (F_X8_placeOf N m20 x7 s0 x5 x6) fun r23 m22 =>
    gd (inb (((8 : Int32) * x5) + x6) (alen 94)) <|
    bnd (mup m22 94 (ix (((8 : Int32) * x5) + x6)) r23) fun m25 =>
    gd (inb (((8 : Int32) * x5) + x6) (alen 94)) <|
    if (m25 94 (ix (((8 : Int32) * x5) + x6))) = (-1 : Int32) then (
      B_X8_looks_185 N rec_44 rec_61 m25 x1 x2 x3 x5 x6 (0 : Int32)
    ) else (
      B_X8_looks_185 N rec_44 rec_61 m25 x1 x2 x3 x5 x6 (1 : Int32)
    )
  )
set_option maxRecDepth 100000 in
set_option maxHeartbeats 4000000 in
theorem bk_X8_looks_111 {N : Nat} {K : KT} {m' : Mem} {rec_44 : Mem → Int32 → Int32 → Int32 → Int32 → Int32 → Option (Int32 × Mem)} {rec_61 : Mem → Int32 → Int32 → Int32 → Int32 → Int32 → Int32 → Option (Int32 × Mem)} {r : Int32} (hK : KOK K cX8_looks 9 RX8 wsX8_looks 2 0 50) (hR : KRet K (some .boolean) (some r) m') (hrec_44 : ∀ {m : Mem} {x1 : Int32} {x2 : Int32} {x3 : Int32} {x4 : Int32} {x5 : Int32}, rec_44 m x1 x2 x3 x4 x5 = some (r, m') → AW K 0 44 [(0, q_r 70), (1, q_i x1), (2, q_i x2), (3, q_i x3), (4, q_i x4), (5, q_i x5)] [] m) (hrec_61 : ∀ {m : Mem} {x1 : Int32} {x2 : Int32} {x3 : Int32} {x4 : Int32} {x5 : Int32} {x6 : Int32}, rec_61 m x1 x2 x3 x4 x5 x6 = some (r, m') → AW K 0 61 [(0, q_r 70), (1, q_i x1), (2, q_i x2), (3, q_i x3), (4, q_i x4), (5, q_i x5), (6, q_i x6)] [] m) {m : Mem} {x1 : Int32} {x2 : Int32} {x3 : Int32} {x4 : Int32} {x5 : Int32} {x6 : Int32} {x7 : Int32} {s0 : Int32} (hF : B_X8_looks_111 N rec_44 rec_61 m x1 x2 x3 x4 x5 x6 x7 s0 = some (r, m')) : AW K 0 111 [(0, q_r 70), (1, q_i x1), (2, q_i x2), (3, q_i x3), (4, q_i x4), (5, q_i x5), (6, q_i x6), (7, q_i x7)] [q_i s0] m := by
  unfold B_X8_looks_111 at hF
  refine aw_istore hK [(8, q_i s0), (0, q_r 70), (1, q_i x1), (2, q_i x2), (3, q_i x3), (4, q_i x4), (5, q_i x5), (6, q_i x6), (7, q_i x7)] (by decide) rfl dX8_looks_111 ?_
  refine aw_aload_n hK 1 rfl dX8_looks_113 ?_
  refine gf_8_30 hK rfl (94) rfl (List.mem_of_getElem? (i := 4) rfl) dX8_looks_114 ?_
  refine aw_bipush hK (8) rfl dX8_looks_117 ?_
  refine aw_iload hK 6 rfl dX8_looks_119 ?_
  refine aw_imul hK dX8_looks_121 ?_
  refine aw_iload hK 7 rfl dX8_looks_122 ?_
  refine aw_iadd hK dX8_looks_124 ?_
  refine aw_iconst hK (-1) rfl dX8_looks_125 ?_
  obtain ⟨g19, hF⟩ := gd_some hF
  refine aw_iast hK rfl g19 dX8_looks_126 ?_
  obtain ⟨m20, hm20, hF⟩ := bnd_some hF
  refine aw_mm hm20 ?_
  refine aw_iload_n hK 4 rfl dX8_looks_127 ?_
  refine aw_iload hK 8 rfl dX8_looks_128 ?_
  refine aw_iload hK 0 rfl dX8_looks_130 ?_
  refine aw_cs hK (as := [q_i x3, q_i x7, q_i s0]) (trp_X8_isKept x3 x7 s0 _) gX8_looks_X8_isKept rfl (na := 3) (by decide +kernel) rfl ⟨by decide, by decide⟩ (Nat.zero_le _) (Nat.le_of_ble_eq_true rfl) dX8_looks_132 ?_
  refine aw_if_eq hK 187 rfl dX8_looks_135 (fun hc => ?_) (fun hc => ?_)
  · have hF := if_t hF hc
    refine aw_sub [1, 2, 3, 4, 5, 6, 7] (lv' := [(0, q_r 70), (1, q_i x1), (2, q_i x2), (3, q_i x3), (4, q_i x4), (5, q_i x5), (6, q_i x6)]) rfl ?_
    exact bk_X8_looks_187 hK hR hrec_44 hrec_61 hF
  · have hF := if_f hF hc
    refine aw_aload_n hK 1 rfl dX8_looks_138 ?_
    refine gf_8_30 hK rfl (94) rfl (List.mem_of_getElem? (i := 4) rfl) dX8_looks_139 ?_
    refine aw_bipush hK (8) rfl dX8_looks_142 ?_
    refine aw_iload hK 6 rfl dX8_looks_144 ?_
    refine aw_imul hK dX8_looks_146 ?_
    refine aw_iload hK 7 rfl dX8_looks_147 ?_
    refine aw_iadd hK dX8_looks_149 ?_
    refine aw_aload_n hK 1 rfl dX8_looks_150 ?_
    refine aw_iload hK 8 rfl dX8_looks_151 ?_
    refine aw_iload hK 0 rfl dX8_looks_153 ?_
    refine aw_iload hK 6 rfl dX8_looks_155 ?_
    refine aw_iload hK 7 rfl dX8_looks_157 ?_
    obtain ⟨r23, m22, h21, hF⟩ := cal_some hF
    refine aw_cv hK 8 (as := [q_i x7, q_i s0, q_i x5, q_i x6]) (tr_X8_placeOf h21) gX8_looks_X8_placeOf rfl rfl rfl (by decide) (na := 4) (by decide +kernel) rfl ⟨by decide, by decide⟩ (Nat.zero_le _) (Nat.le_of_ble_eq_true rfl) dX8_looks_159 ?_
    obtain ⟨g24, hF⟩ := gd_some hF
    refine aw_iast hK rfl g24 dX8_looks_162 ?_
    obtain ⟨m25, hm25, hF⟩ := bnd_some hF
    refine aw_mm hm25 ?_
    refine aw_aload_n hK 1 rfl dX8_looks_163 ?_
    refine gf_8_30 hK rfl (94) rfl (List.mem_of_getElem? (i := 4) rfl) dX8_looks_164 ?_
    refine aw_bipush hK (8) rfl dX8_looks_167 ?_
    refine aw_iload hK 6 rfl dX8_looks_169 ?_
    refine aw_imul hK dX8_looks_171 ?_
    refine aw_iload hK 7 rfl dX8_looks_172 ?_
    refine aw_iadd hK dX8_looks_174 ?_
    obtain ⟨g26, hF⟩ := gd_some hF
    refine aw_iald hK rfl g26 dX8_looks_175 ?_
    refine aw_iconst hK (-1) rfl dX8_looks_176 ?_
    refine aw_icmp_eq hK 184 rfl dX8_looks_177 (fun hc => ?_) (fun hc => ?_)
    · have hF := if_t hF hc
      refine aw_iconst hK (0) rfl dX8_looks_184 ?_
      refine aw_sub [1, 2, 3, 4, 6, 7] (lv' := [(0, q_r 70), (1, q_i x1), (2, q_i x2), (3, q_i x3), (5, q_i x5), (6, q_i x6)]) rfl ?_
      exact bk_X8_looks_185 hK hR hrec_44 hrec_61 hF
    · have hF := if_f hF hc
      refine aw_iconst hK (1) rfl dX8_looks_180 ?_
      refine aw_goto hK 185 rfl dX8_looks_181 ?_
      refine aw_sub [1, 2, 3, 4, 6, 7] (lv' := [(0, q_r 70), (1, q_i x1), (2, q_i x2), (3, q_i x3), (5, q_i x5), (6, q_i x6)]) rfl ?_
      exact bk_X8_looks_185 hK hR hrec_44 hrec_61 hF
def S_X8_looks_61 (N : Nat) (rec_44 : Mem → Int32 → Int32 → Int32 → Int32 → Int32 → Option (Int32 × Mem)) (rec_61 : Mem → Int32 → Int32 → Int32 → Int32 → Int32 → Int32 → Option (Int32 × Mem)) (m : Mem) (x1 : Int32) (x2 : Int32) (x3 : Int32) (x4 : Int32) (x5 : Int32) (x6 : Int32) : Option (Int32 × Mem) :=
  if (8 : Int32) ≤ x6 then (
    B_X8_looks_193 N rec_44 m x1 x2 x3 x4 x5
  ) else (
    if x4 = (0 : Int32) then (
      B_X8_looks_193 N rec_44 m x1 x2 x3 x4 x5
    ) else (
      gd (inb x5 (alen 92)) <|
      cal (F_X8_step N m x1 (m 92 (ix x5)) x6) fun r14 m13 =>
      if x3 = (0 : Int32) then (
        B_X8_looks_111 N rec_44 rec_61 m13 x1 x2 x3 x4 x5 x6 r14 (0 : Int32)
      ) else (
        gd (inb x5 (alen 93)) <|
        cal (F_X8_step N m13 x2 (m13 93 (ix x5)) x6) fun r18 m17 =>
        B_X8_looks_111 N rec_44 rec_61 m17 x1 x2 x3 x4 x5 x6 r14 r18
      )
    )
  )
def L_X8_looks_61 (N : Nat) (rec_44 : Mem → Int32 → Int32 → Int32 → Int32 → Int32 → Option (Int32 × Mem)) : Nat → Mem → Int32 → Int32 → Int32 → Int32 → Int32 → Int32 → Option (Int32 × Mem)
  | 0 => fun _ _ _ _ _ _ _ => none
  | f + 1 => S_X8_looks_61 N rec_44 (L_X8_looks_61 N rec_44 f)
set_option maxRecDepth 100000 in
set_option maxHeartbeats 4000000 in
theorem lp_X8_looks_61 {N : Nat} {K : KT} {m' : Mem} {rec_44 : Mem → Int32 → Int32 → Int32 → Int32 → Int32 → Option (Int32 × Mem)} {r : Int32} (hK : KOK K cX8_looks 9 RX8 wsX8_looks 2 0 50) (hR : KRet K (some .boolean) (some r) m') (hrec_44 : ∀ {m : Mem} {x1 : Int32} {x2 : Int32} {x3 : Int32} {x4 : Int32} {x5 : Int32}, rec_44 m x1 x2 x3 x4 x5 = some (r, m') → AW K 0 44 [(0, q_r 70), (1, q_i x1), (2, q_i x2), (3, q_i x3), (4, q_i x4), (5, q_i x5)] [] m) : ∀ (f : Nat) {m : Mem} {x1 : Int32} {x2 : Int32} {x3 : Int32} {x4 : Int32} {x5 : Int32} {x6 : Int32}, L_X8_looks_61 N rec_44 f m x1 x2 x3 x4 x5 x6 = some (r, m') → AW K 0 61 [(0, q_r 70), (1, q_i x1), (2, q_i x2), (3, q_i x3), (4, q_i x4), (5, q_i x5), (6, q_i x6)] [] m := by
  intro f
  induction f with
  | zero => intro m x1 x2 x3 x4 x5 x6 hF; cases hF
  | succ f hrec_61 =>
    intro m x1 x2 x3 x4 x5 x6 hF
    have hF : S_X8_looks_61 N rec_44 (L_X8_looks_61 N rec_44 f) m x1 x2 x3 x4 x5 x6 = some (r, m') := hF
    unfold S_X8_looks_61 at hF
    refine aw_iload hK 6 rfl dX8_looks_61 ?_
    refine aw_bipush hK (8) rfl dX8_looks_63 ?_
    refine aw_icmp_ge hK 193 rfl dX8_looks_65 (fun hc => ?_) (fun hc => ?_)
    · have hF := if_t hF hc
      refine aw_sub [0, 1, 2, 3, 4, 5] (lv' := [(0, q_r 70), (1, q_i x1), (2, q_i x2), (3, q_i x3), (4, q_i x4), (5, q_i x5)]) rfl ?_
      exact bk_X8_looks_193 hK hR hrec_44 hF
    · have hF := if_f hF hc
      refine aw_iload hK 4 rfl dX8_looks_68 ?_
      refine aw_if_eq hK 193 rfl dX8_looks_70 (fun hc => ?_) (fun hc => ?_)
      · have hF := if_t hF hc
        refine aw_sub [0, 1, 2, 3, 4, 5] (lv' := [(0, q_r 70), (1, q_i x1), (2, q_i x2), (3, q_i x3), (4, q_i x4), (5, q_i x5)]) rfl ?_
        exact bk_X8_looks_193 hK hR hrec_44 hF
      · have hF := if_f hF hc
        refine aw_aload_n hK 0 rfl dX8_looks_73 ?_
        refine aw_iload_n hK 1 rfl dX8_looks_74 ?_
        refine aw_aload_n hK 0 rfl dX8_looks_75 ?_
        refine gf_8_28 hK rfl (92) rfl (List.mem_of_getElem? (i := 2) rfl) dX8_looks_76 ?_
        refine aw_iload hK 5 rfl dX8_looks_79 ?_
        obtain ⟨g11, hF⟩ := gd_some hF
        refine aw_iald hK rfl g11 dX8_looks_81 ?_
        refine aw_iload hK 6 rfl dX8_looks_82 ?_
        obtain ⟨r14, m13, h12, hF⟩ := cal_some hF
        refine aw_cv hK 8 (as := [q_i x1, q_i (m 92 (ix x5)), q_i x6]) (tr_X8_step h12) gX8_looks_X8_step rfl rfl rfl (by decide) (na := 3) (by decide +kernel) rfl ⟨by decide, by decide⟩ (Nat.zero_le _) (Nat.le_of_ble_eq_true rfl) dX8_looks_84 ?_
        refine aw_istore hK [(7, q_i r14), (0, q_r 70), (1, q_i x1), (2, q_i x2), (3, q_i x3), (4, q_i x4), (5, q_i x5), (6, q_i x6)] (by decide) rfl dX8_looks_87 ?_
        refine aw_iload_n hK 4 rfl dX8_looks_89 ?_
        refine aw_if_ne hK 97 rfl dX8_looks_90 (fun hc => ?_) (fun hc => ?_)
        · have hF := if_f hF hc
          refine aw_aload_n hK 1 rfl dX8_looks_97 ?_
          refine aw_iload_n hK 3 rfl dX8_looks_98 ?_
          refine aw_aload_n hK 1 rfl dX8_looks_99 ?_
          refine gf_8_29 hK rfl (93) rfl (List.mem_of_getElem? (i := 3) rfl) dX8_looks_100 ?_
          refine aw_iload hK 6 rfl dX8_looks_103 ?_
          obtain ⟨g15, hF⟩ := gd_some hF
          refine aw_iald hK rfl g15 dX8_looks_105 ?_
          refine aw_iload hK 7 rfl dX8_looks_106 ?_
          obtain ⟨r18, m17, h16, hF⟩ := cal_some hF
          refine aw_cv hK 8 (as := [q_i x2, q_i (m13 93 (ix x5)), q_i x6]) (tr_X8_step h16) gX8_looks_X8_step rfl rfl rfl (by decide) (na := 3) (by decide +kernel) rfl ⟨by decide, by decide⟩ (Nat.zero_le _) (Nat.le_of_ble_eq_true rfl) dX8_looks_108 ?_
          refine aw_sub [1, 2, 3, 4, 5, 6, 7, 0] (lv' := [(0, q_r 70), (1, q_i x1), (2, q_i x2), (3, q_i x3), (4, q_i x4), (5, q_i x5), (6, q_i x6), (7, q_i r14)]) rfl ?_
          exact bk_X8_looks_111 hK hR hrec_44 hrec_61 hF
        · have hF := if_t hF hc
          refine aw_iconst hK (0) rfl dX8_looks_93 ?_
          refine aw_goto hK 111 rfl dX8_looks_94 ?_
          refine aw_sub [1, 2, 3, 4, 5, 6, 7, 0] (lv' := [(0, q_r 70), (1, q_i x1), (2, q_i x2), (3, q_i x3), (4, q_i x4), (5, q_i x5), (6, q_i x6), (7, q_i r14)]) rfl ?_
          exact bk_X8_looks_111 hK hR hrec_44 hrec_61 hF
def S_X8_looks_44 (N : Nat) (rec_44 : Mem → Int32 → Int32 → Int32 → Int32 → Int32 → Option (Int32 × Mem)) (m : Mem) (x1 : Int32) (x2 : Int32) (x3 : Int32) (x4 : Int32) (x5 : Int32) : Option (Int32 × Mem) :=
  if (m 70 35) ≤ x5 then (
    B_X8_looks_199 N m x4
  ) else (
    if x4 = (0 : Int32) then (
      B_X8_looks_199 N m x4
    ) else (
      L_X8_looks_61 N rec_44 N m x1 x2 x3 x4 x5 (0 : Int32)
    )
  )
def L_X8_looks_44 (N : Nat) : Nat → Mem → Int32 → Int32 → Int32 → Int32 → Int32 → Option (Int32 × Mem)
  | 0 => fun _ _ _ _ _ _ => none
  | f + 1 => S_X8_looks_44 N (L_X8_looks_44 N f)
set_option maxRecDepth 100000 in
set_option maxHeartbeats 4000000 in
theorem lp_X8_looks_44 {N : Nat} {K : KT} {m' : Mem} {r : Int32} (hK : KOK K cX8_looks 9 RX8 wsX8_looks 2 0 50) (hR : KRet K (some .boolean) (some r) m') : ∀ (f : Nat) {m : Mem} {x1 : Int32} {x2 : Int32} {x3 : Int32} {x4 : Int32} {x5 : Int32}, L_X8_looks_44 N f m x1 x2 x3 x4 x5 = some (r, m') → AW K 0 44 [(0, q_r 70), (1, q_i x1), (2, q_i x2), (3, q_i x3), (4, q_i x4), (5, q_i x5)] [] m := by
  intro f
  induction f with
  | zero => intro m x1 x2 x3 x4 x5 hF; cases hF
  | succ f hrec_44 =>
    intro m x1 x2 x3 x4 x5 hF
    have hF : S_X8_looks_44 N (L_X8_looks_44 N f) m x1 x2 x3 x4 x5 = some (r, m') := hF
    unfold S_X8_looks_44 at hF
    refine aw_iload hK 5 rfl dX8_looks_44 ?_
    refine aw_aload_n hK 0 rfl dX8_looks_46 ?_
    refine gf_8_35 hK rfl (List.mem_of_getElem? (i := 1) rfl) dX8_looks_47 ?_
    refine aw_icmp_ge hK 199 rfl dX8_looks_50 (fun hc => ?_) (fun hc => ?_)
    · have hF := if_t hF hc
      refine aw_sub [4] (lv' := [(4, q_i x4)]) rfl ?_
      exact bk_X8_looks_199 hK hR hF
    · have hF := if_f hF hc
      refine aw_iload hK 4 rfl dX8_looks_53 ?_
      refine aw_if_eq hK 199 rfl dX8_looks_55 (fun hc => ?_) (fun hc => ?_)
      · have hF := if_t hF hc
        refine aw_sub [4] (lv' := [(4, q_i x4)]) rfl ?_
        exact bk_X8_looks_199 hK hR hF
      · have hF := if_f hF hc
        refine aw_iconst hK (0) rfl dX8_looks_58 ?_
        refine aw_istore hK [(6, q_i (0 : Int32)), (0, q_r 70), (1, q_i x1), (2, q_i x2), (3, q_i x3), (4, q_i x4), (5, q_i x5)] (by decide) rfl dX8_looks_59 ?_
        refine aw_sub [1, 2, 3, 4, 5, 6, 0] (lv' := [(0, q_r 70), (1, q_i x1), (2, q_i x2), (3, q_i x3), (4, q_i x4), (5, q_i x5), (6, q_i (0 : Int32))]) rfl ?_
        exact lp_X8_looks_61 hK hR hrec_44 _ hF
def B_X8_looks_39 (N : Nat) (m : Mem) (x1 : Int32) (x2 : Int32) (x3 : Int32) (s0 : Int32) : Option (Int32 × Mem) :=
  L_X8_looks_44 N N m x1 x2 x3 s0 (0 : Int32)
set_option maxRecDepth 100000 in
set_option maxHeartbeats 4000000 in
theorem bk_X8_looks_39 {N : Nat} {K : KT} {m' : Mem} {r : Int32} (hK : KOK K cX8_looks 9 RX8 wsX8_looks 2 0 50) (hR : KRet K (some .boolean) (some r) m') {m : Mem} {x1 : Int32} {x2 : Int32} {x3 : Int32} {s0 : Int32} (hF : B_X8_looks_39 N m x1 x2 x3 s0 = some (r, m')) : AW K 0 39 [(0, q_r 70), (1, q_i x1), (2, q_i x2), (3, q_i x3)] [q_i s0] m := by
  unfold B_X8_looks_39 at hF
  refine aw_istore hK [(4, q_i s0), (0, q_r 70), (1, q_i x1), (2, q_i x2), (3, q_i x3)] (by decide) rfl dX8_looks_39 ?_
  refine aw_iconst hK (0) rfl dX8_looks_41 ?_
  refine aw_istore hK [(5, q_i (0 : Int32)), (4, q_i s0), (0, q_r 70), (1, q_i x1), (2, q_i x2), (3, q_i x3)] (by decide) rfl dX8_looks_42 ?_
  refine aw_sub [2, 3, 4, 5, 1, 0] (lv' := [(0, q_r 70), (1, q_i x1), (2, q_i x2), (3, q_i x3), (4, q_i s0), (5, q_i (0 : Int32))]) rfl ?_
  exact lp_X8_looks_44 hK hR _ hF
def B_X8_looks_26 (N : Nat) (m : Mem) (x1 : Int32) (x2 : Int32) (x3 : Int32) (s0 : Int32) (s1 : Int32) : Option (Int32 × Mem) :=
  cal (F_X8_placeOf N m s1 s0 (-1 : Int32) (0 : Int32)) fun r10 m9 =>
  if r10 = (0 : Int32) then (
    B_X8_looks_39 N m9 x1 x2 x3 (1 : Int32)
  ) else (
    B_X8_looks_39 N m9 x1 x2 x3 (0 : Int32)
  )
set_option maxRecDepth 100000 in
set_option maxHeartbeats 4000000 in
theorem bk_X8_looks_26 {N : Nat} {K : KT} {m' : Mem} {r : Int32} (hK : KOK K cX8_looks 9 RX8 wsX8_looks 2 0 50) (hR : KRet K (some .boolean) (some r) m') {m : Mem} {x1 : Int32} {x2 : Int32} {x3 : Int32} {s0 : Int32} {s1 : Int32} (hF : B_X8_looks_26 N m x1 x2 x3 s0 s1 = some (r, m')) : AW K 0 26 [(0, q_r 70), (1, q_i x1), (2, q_i x2), (3, q_i x3)] [q_i s0, q_i s1, q_r 70] m := by
  unfold B_X8_looks_26 at hF
  refine aw_iconst hK (-1) rfl dX8_looks_26 ?_
  refine aw_iconst hK (0) rfl dX8_looks_27 ?_
  obtain ⟨r10, m9, h8, hF⟩ := cal_some hF
  refine aw_cv hK 8 (as := [q_i s1, q_i s0, q_i (-1 : Int32), q_i (0 : Int32)]) (tr_X8_placeOf h8) gX8_looks_X8_placeOf rfl rfl rfl (by decide) (na := 4) (by decide +kernel) rfl ⟨by decide, by decide⟩ (Nat.zero_le _) (Nat.le_of_ble_eq_true rfl) dX8_looks_28 ?_
  refine aw_if_ne hK 38 rfl dX8_looks_31 (fun hc => ?_) (fun hc => ?_)
  · have hF := if_f hF hc
    refine aw_iconst hK (0) rfl dX8_looks_38 ?_
    refine aw_sub [0, 1, 2, 3] (lv' := [(0, q_r 70), (1, q_i x1), (2, q_i x2), (3, q_i x3)]) rfl ?_
    exact bk_X8_looks_39 hK hR hF
  · have hF := if_t hF hc
    refine aw_iconst hK (1) rfl dX8_looks_34 ?_
    refine aw_goto hK 39 rfl dX8_looks_35 ?_
    refine aw_sub [0, 1, 2, 3] (lv' := [(0, q_r 70), (1, q_i x1), (2, q_i x2), (3, q_i x3)]) rfl ?_
    exact bk_X8_looks_39 hK hR hF
def F_X8_looks (N : Nat) (m : Mem) (x1 : Int32) (x2 : Int32) (x3 : Int32) : Option (Int32 × Mem) :=
  bnd (mup m 70 35 (0 : Int32)) fun m1 =>
  cal (F_X8_closed N m1 x1 (1 : Int32)) fun r4 m3 =>
  if x3 = (0 : Int32) then (
    B_X8_looks_26 N m3 x1 x2 x3 (0 : Int32) r4
  ) else (
    cal (F_X8_closed N m3 x2 (1 : Int32)) fun r7 m6 =>
    B_X8_looks_26 N m6 x1 x2 x3 r7 r4
  )
set_option maxRecDepth 100000 in
set_option maxHeartbeats 4000000 in
theorem tr_X8_looks {N : Nat} {m m' : Mem} {r : Int32} {x1 : Int32} {x2 : Int32} {x3 : Int32} (hF : F_X8_looks N m x1 x2 x3 = some (r, m')) : Tr yX8_looks wsX8_looks 2 50 [q_r 70, q_i x1, q_i x2, q_i x3] m (some r) m' := by
  refine tr_of (bytes := cX8_looks) (maxL := 9) (ret := (some .boolean)) (by decide) rfl (Nat.le_of_ble_eq_true rfl) (fun K hK hR => ?_)
  have hK : KOK K cX8_looks 9 RX8 wsX8_looks 2 0 50 := hK
  show AW K 0 0 [(0, q_r 70), (1, q_i x1), (2, q_i x2), (3, q_i x3)] [] m
  unfold F_X8_looks at hF
  refine aw_aload_n hK 0 rfl dX8_looks_0 ?_
  refine aw_iconst hK (0) rfl dX8_looks_1 ?_
  refine pf_8_35 hK rfl (List.mem_of_getElem? (i := 1) rfl) dX8_looks_2 ?_
  obtain ⟨m1, hm1, hF⟩ := bnd_some hF
  refine aw_mm hm1 ?_
  refine aw_aload_n hK 0 rfl dX8_looks_5 ?_
  refine aw_aload_n hK 0 rfl dX8_looks_6 ?_
  refine aw_iload_n hK 1 rfl dX8_looks_7 ?_
  refine aw_iconst hK (1) rfl dX8_looks_8 ?_
  obtain ⟨r4, m3, h2, hF⟩ := cal_some hF
  refine aw_cv hK 8 (as := [q_i x1, q_i (1 : Int32)]) (tr_X8_closed h2) gX8_looks_X8_closed rfl rfl rfl (by decide) (na := 2) (by decide +kernel) rfl ⟨by decide, by decide⟩ (Nat.zero_le _) (Nat.le_of_ble_eq_true rfl) dX8_looks_9 ?_
  refine aw_iload_n hK 3 rfl dX8_looks_12 ?_
  refine aw_if_ne hK 20 rfl dX8_looks_13 (fun hc => ?_) (fun hc => ?_)
  · have hF := if_f hF hc
    refine aw_aload_n hK 0 rfl dX8_looks_20 ?_
    refine aw_iload_n hK 2 rfl dX8_looks_21 ?_
    refine aw_iconst hK (1) rfl dX8_looks_22 ?_
    obtain ⟨r7, m6, h5, hF⟩ := cal_some hF
    refine aw_cv hK 8 (as := [q_i x2, q_i (1 : Int32)]) (tr_X8_closed h5) gX8_looks_X8_closed rfl rfl rfl (by decide) (na := 2) (by decide +kernel) rfl ⟨by decide, by decide⟩ (Nat.zero_le _) (Nat.le_of_ble_eq_true rfl) dX8_looks_23 ?_
    refine aw_sub [0, 1, 2, 3] (lv' := [(0, q_r 70), (1, q_i x1), (2, q_i x2), (3, q_i x3)]) rfl ?_
    exact bk_X8_looks_26 hK hR hF
  · have hF := if_t hF hc
    refine aw_iconst hK (0) rfl dX8_looks_16 ?_
    refine aw_goto hK 26 rfl dX8_looks_17 ?_
    refine aw_sub [0, 1, 2, 3] (lv' := [(0, q_r 70), (1, q_i x1), (2, q_i x2), (3, q_i x3)]) rfl ?_
    exact bk_X8_looks_26 hK hR hF
def B_X8_isAccepted_121 (N : Nat) (m : Mem) (s0 : Int32) : Option (Int32 × Mem) :=
  gd (isb s0) <|
  some (s0, m)
set_option maxRecDepth 100000 in
set_option maxHeartbeats 4000000 in
theorem bk_X8_isAccepted_121 {N : Nat} {K : KT} {m' : Mem} {r : Int32} (hK : KOK K cX8_isAccepted 7 RX8 wsX8_isAccepted 0 0 0) (hR : KRet K (some .boolean) (some r) m') {m : Mem} {s0 : Int32} (hF : B_X8_isAccepted_121 N m s0 = some (r, m')) : AW K 0 121 [] [q_i s0] m := by
  unfold B_X8_isAccepted_121 at hF
  obtain ⟨g5, hF⟩ := gd_some hF
  obtain ⟨rfl, rfl⟩ := so_inj hF
  exact aw_iret hK hR (isb_narrow g5) dX8_isAccepted_121
def B_X8_isAccepted_105 (N : Nat) (m : Mem) : Option (Int32 × Mem) :=
  B_X8_isAccepted_121 N m (0 : Int32)
set_option maxRecDepth 100000 in
set_option maxHeartbeats 4000000 in
theorem bk_X8_isAccepted_105 {N : Nat} {K : KT} {m' : Mem} {r : Int32} (hK : KOK K cX8_isAccepted 7 RX8 wsX8_isAccepted 0 0 0) (hR : KRet K (some .boolean) (some r) m') {m : Mem} (hF : B_X8_isAccepted_105 N m = some (r, m')) : AW K 0 105 [] [] m := by
  unfold B_X8_isAccepted_105 at hF
  refine aw_iconst hK (0) rfl dX8_isAccepted_105 ?_
  refine aw_goto hK 121 rfl dX8_isAccepted_106 ?_
  refine aw_sub [] (lv' := []) rfl ?_
  exact bk_X8_isAccepted_121 hK hR hF
def B_X8_isAccepted_81 (N : Nat) (m : Mem) : Option (Int32 × Mem) :=
  B_X8_isAccepted_121 N m (0 : Int32)
set_option maxRecDepth 100000 in
set_option maxHeartbeats 4000000 in
theorem bk_X8_isAccepted_81 {N : Nat} {K : KT} {m' : Mem} {r : Int32} (hK : KOK K cX8_isAccepted 7 RX8 wsX8_isAccepted 0 0 0) (hR : KRet K (some .boolean) (some r) m') {m : Mem} (hF : B_X8_isAccepted_81 N m = some (r, m')) : AW K 0 81 [] [] m := by
  unfold B_X8_isAccepted_81 at hF
  refine aw_iconst hK (0) rfl dX8_isAccepted_81 ?_
  refine aw_goto hK 121 rfl dX8_isAccepted_82 ?_
  refine aw_sub [] (lv' := []) rfl ?_
  exact bk_X8_isAccepted_121 hK hR hF
def B_X8_isAccepted_49 (N : Nat) (m : Mem) (x4 : Int32) (x5 : Int32) (s0 : Int32) : Option (Int32 × Mem) :=
  if x4 = (0 : Int32) then (
    B_X8_isAccepted_121 N m x5
  ) else (
    if x4 = (1 : Int32) then (
      if x5 = (0 : Int32) then (
        B_X8_isAccepted_81 N m
      ) else (
        if s0 = (0 : Int32) then (
          B_X8_isAccepted_81 N m
        ) else (
          B_X8_isAccepted_121 N m (1 : Int32)
        )
      )
    ) else (
      if x4 = (2 : Int32) then (
        if x5 = (0 : Int32) then (
          B_X8_isAccepted_105 N m
        ) else (
          if s0 = (0 : Int32) then (
            B_X8_isAccepted_121 N m (1 : Int32)
          ) else (
            B_X8_isAccepted_105 N m
          )
        )
      ) else (
        if x5 = s0 then (
          B_X8_isAccepted_121 N m (0 : Int32)
        ) else (
          B_X8_isAccepted_121 N m (1 : Int32)
        )
      )
    )
  )
set_option maxRecDepth 100000 in
set_option maxHeartbeats 4000000 in
theorem bk_X8_isAccepted_49 {N : Nat} {K : KT} {m' : Mem} {r : Int32} (hK : KOK K cX8_isAccepted 7 RX8 wsX8_isAccepted 0 0 0) (hR : KRet K (some .boolean) (some r) m') {m : Mem} {x4 : Int32} {x5 : Int32} {s0 : Int32} (hF : B_X8_isAccepted_49 N m x4 x5 s0 = some (r, m')) : AW K 0 49 [(4, q_i x4), (5, q_i x5)] [q_i s0] m := by
  unfold B_X8_isAccepted_49 at hF
  refine aw_istore hK [(6, q_i s0), (4, q_i x4), (5, q_i x5)] (by decide) rfl dX8_isAccepted_49 ?_
  refine aw_iload hK 1 rfl dX8_isAccepted_51 ?_
  refine aw_if_ne hK 61 rfl dX8_isAccepted_53 (fun hc => ?_) (fun hc => ?_)
  · have hF := if_f hF hc
    refine aw_iload hK 1 rfl dX8_isAccepted_61 ?_
    refine aw_iconst hK (1) rfl dX8_isAccepted_63 ?_
    refine aw_icmp_ne hK 85 rfl dX8_isAccepted_64 (fun hc => ?_) (fun hc => ?_)
    · have hF := if_f hF hc
      refine aw_iload hK 1 rfl dX8_isAccepted_85 ?_
      refine aw_iconst hK (2) rfl dX8_isAccepted_87 ?_
      refine aw_icmp_ne hK 109 rfl dX8_isAccepted_88 (fun hc => ?_) (fun hc => ?_)
      · have hF := if_f hF hc
        refine aw_iload hK 2 rfl dX8_isAccepted_109 ?_
        refine aw_iload hK 0 rfl dX8_isAccepted_111 ?_
        refine aw_icmp_eq hK 120 rfl dX8_isAccepted_113 (fun hc => ?_) (fun hc => ?_)
        · have hF := if_t hF hc
          refine aw_iconst hK (0) rfl dX8_isAccepted_120 ?_
          refine aw_sub [] (lv' := []) rfl ?_
          exact bk_X8_isAccepted_121 hK hR hF
        · have hF := if_f hF hc
          refine aw_iconst hK (1) rfl dX8_isAccepted_116 ?_
          refine aw_goto hK 121 rfl dX8_isAccepted_117 ?_
          refine aw_sub [] (lv' := []) rfl ?_
          exact bk_X8_isAccepted_121 hK hR hF
      · have hF := if_t hF hc
        refine aw_iload hK 2 rfl dX8_isAccepted_91 ?_
        refine aw_if_eq hK 105 rfl dX8_isAccepted_93 (fun hc => ?_) (fun hc => ?_)
        · have hF := if_t hF hc
          refine aw_sub [] (lv' := []) rfl ?_
          exact bk_X8_isAccepted_105 hK hR hF
        · have hF := if_f hF hc
          refine aw_iload hK 0 rfl dX8_isAccepted_96 ?_
          refine aw_if_ne hK 105 rfl dX8_isAccepted_98 (fun hc => ?_) (fun hc => ?_)
          · have hF := if_f hF hc
            refine aw_sub [] (lv' := []) rfl ?_
            exact bk_X8_isAccepted_105 hK hR hF
          · have hF := if_t hF hc
            refine aw_iconst hK (1) rfl dX8_isAccepted_101 ?_
            refine aw_goto hK 121 rfl dX8_isAccepted_102 ?_
            refine aw_sub [] (lv' := []) rfl ?_
            exact bk_X8_isAccepted_121 hK hR hF
    · have hF := if_t hF hc
      refine aw_iload hK 2 rfl dX8_isAccepted_67 ?_
      refine aw_if_eq hK 81 rfl dX8_isAccepted_69 (fun hc => ?_) (fun hc => ?_)
      · have hF := if_t hF hc
        refine aw_sub [] (lv' := []) rfl ?_
        exact bk_X8_isAccepted_81 hK hR hF
      · have hF := if_f hF hc
        refine aw_iload hK 0 rfl dX8_isAccepted_72 ?_
        refine aw_if_eq hK 81 rfl dX8_isAccepted_74 (fun hc => ?_) (fun hc => ?_)
        · have hF := if_t hF hc
          refine aw_sub [] (lv' := []) rfl ?_
          exact bk_X8_isAccepted_81 hK hR hF
        · have hF := if_f hF hc
          refine aw_iconst hK (1) rfl dX8_isAccepted_77 ?_
          refine aw_goto hK 121 rfl dX8_isAccepted_78 ?_
          refine aw_sub [] (lv' := []) rfl ?_
          exact bk_X8_isAccepted_121 hK hR hF
  · have hF := if_t hF hc
    refine aw_iload hK 2 rfl dX8_isAccepted_56 ?_
    refine aw_goto hK 121 rfl dX8_isAccepted_58 ?_
    refine aw_sub [] (lv' := []) rfl ?_
    exact bk_X8_isAccepted_121 hK hR hF
def B_X8_isAccepted_48 (N : Nat) (m : Mem) (x4 : Int32) (x5 : Int32) : Option (Int32 × Mem) :=
  B_X8_isAccepted_49 N m x4 x5 (0 : Int32)
set_option maxRecDepth 100000 in
set_option maxHeartbeats 4000000 in
theorem bk_X8_isAccepted_48 {N : Nat} {K : KT} {m' : Mem} {r : Int32} (hK : KOK K cX8_isAccepted 7 RX8 wsX8_isAccepted 0 0 0) (hR : KRet K (some .boolean) (some r) m') {m : Mem} {x4 : Int32} {x5 : Int32} (hF : B_X8_isAccepted_48 N m x4 x5 = some (r, m')) : AW K 0 48 [(4, q_i x4), (5, q_i x5)] [] m := by
  unfold B_X8_isAccepted_48 at hF
  refine aw_iconst hK (0) rfl dX8_isAccepted_48 ?_
  refine aw_sub [0, 1] (lv' := [(4, q_i x4), (5, q_i x5)]) rfl ?_
  exact bk_X8_isAccepted_49 hK hR hF
def B_X8_isAccepted_21 (N : Nat) (m : Mem) (x1 : Int32) (x3 : Int32) (x4 : Int32) (s0 : Int32) : Option (Int32 × Mem) :=
  if x4 = (0 : Int32) then (
    B_X8_isAccepted_48 N m x4 s0
  ) else (
    gd (inb x1 (alen 93)) <|
    gd (inb x3 (alen 73)) <|
    if ((m 93 (ix x1)) &&& (m 73 (ix x3))) = (0 : Int32) then (
      B_X8_isAccepted_48 N m x4 s0
    ) else (
      B_X8_isAccepted_49 N m x4 s0 (1 : Int32)
    )
  )
set_option maxRecDepth 100000 in
set_option maxHeartbeats 4000000 in
theorem bk_X8_isAccepted_21 {N : Nat} {K : KT} {m' : Mem} {r : Int32} (hK : KOK K cX8_isAccepted 7 RX8 wsX8_isAccepted 0 0 0) (hR : KRet K (some .boolean) (some r) m') {m : Mem} {x1 : Int32} {x3 : Int32} {x4 : Int32} {s0 : Int32} (hF : B_X8_isAccepted_21 N m x1 x3 x4 s0 = some (r, m')) : AW K 0 21 [(0, q_r 70), (1, q_i x1), (3, q_i x3), (4, q_i x4)] [q_i s0] m := by
  unfold B_X8_isAccepted_21 at hF
  refine aw_istore hK [(5, q_i s0), (0, q_r 70), (1, q_i x1), (3, q_i x3), (4, q_i x4)] (by decide) rfl dX8_isAccepted_21 ?_
  refine aw_iload hK 4 rfl dX8_isAccepted_23 ?_
  refine aw_if_eq hK 48 rfl dX8_isAccepted_25 (fun hc => ?_) (fun hc => ?_)
  · have hF := if_t hF hc
    refine aw_sub [4, 0] (lv' := [(4, q_i x4), (5, q_i s0)]) rfl ?_
    exact bk_X8_isAccepted_48 hK hR hF
  · have hF := if_f hF hc
    refine aw_aload_n hK 1 rfl dX8_isAccepted_28 ?_
    refine gf_8_29 hK rfl (93) rfl (List.mem_of_getElem? (i := 3) rfl) dX8_isAccepted_29 ?_
    refine aw_iload_n hK 2 rfl dX8_isAccepted_32 ?_
    obtain ⟨g3, hF⟩ := gd_some hF
    refine aw_iald hK rfl g3 dX8_isAccepted_33 ?_
    refine aw_aload_n hK 1 rfl dX8_isAccepted_34 ?_
    refine gf_8_4 hK rfl (73) rfl (List.mem_of_getElem? (i := 2) rfl) dX8_isAccepted_35 ?_
    refine aw_iload_n hK 3 rfl dX8_isAccepted_38 ?_
    obtain ⟨g4, hF⟩ := gd_some hF
    refine aw_iald hK rfl g4 dX8_isAccepted_39 ?_
    refine aw_iand hK dX8_isAccepted_40 ?_
    refine aw_if_eq hK 48 rfl dX8_isAccepted_41 (fun hc => ?_) (fun hc => ?_)
    · have hF := if_t hF hc
      refine aw_sub [4, 0] (lv' := [(4, q_i x4), (5, q_i s0)]) rfl ?_
      exact bk_X8_isAccepted_48 hK hR hF
    · have hF := if_f hF hc
      refine aw_iconst hK (1) rfl dX8_isAccepted_44 ?_
      refine aw_goto hK 49 rfl dX8_isAccepted_45 ?_
      refine aw_sub [4, 0] (lv' := [(4, q_i x4), (5, q_i s0)]) rfl ?_
      exact bk_X8_isAccepted_49 hK hR hF
def F_X8_isAccepted (N : Nat) (m : Mem) (x1 : Int32) (x2 : Int32) (x3 : Int32) (x4 : Int32) : Option (Int32 × Mem) :=
  gd (inb x1 (alen 92)) <|
  gd (inb x2 (alen 73)) <|
  if ((m 92 (ix x1)) &&& (m 73 (ix x2))) = (0 : Int32) then (
    B_X8_isAccepted_21 N m x1 x3 x4 (0 : Int32)
  ) else (
    B_X8_isAccepted_21 N m x1 x3 x4 (1 : Int32)
  )
set_option maxRecDepth 100000 in
set_option maxHeartbeats 4000000 in
theorem tr_X8_isAccepted {N : Nat} {m m' : Mem} {r : Int32} {x1 : Int32} {x2 : Int32} {x3 : Int32} {x4 : Int32} (hF : F_X8_isAccepted N m x1 x2 x3 x4 = some (r, m')) : Tr yX8_isAccepted wsX8_isAccepted 0 0 [q_r 70, q_i x1, q_i x2, q_i x3, q_i x4] m (some r) m' := by
  refine tr_of (bytes := cX8_isAccepted) (maxL := 7) (ret := (some .boolean)) (by decide) rfl (Nat.le_of_ble_eq_true rfl) (fun K hK hR => ?_)
  have hK : KOK K cX8_isAccepted 7 RX8 wsX8_isAccepted 0 0 0 := hK
  show AW K 0 0 [(0, q_r 70), (1, q_i x1), (2, q_i x2), (3, q_i x3), (4, q_i x4)] [] m
  unfold F_X8_isAccepted at hF
  refine aw_aload_n hK 0 rfl dX8_isAccepted_0 ?_
  refine gf_8_28 hK rfl (92) rfl (List.mem_of_getElem? (i := 1) rfl) dX8_isAccepted_1 ?_
  refine aw_iload_n hK 1 rfl dX8_isAccepted_4 ?_
  obtain ⟨g1, hF⟩ := gd_some hF
  refine aw_iald hK rfl g1 dX8_isAccepted_5 ?_
  refine aw_aload_n hK 0 rfl dX8_isAccepted_6 ?_
  refine gf_8_4 hK rfl (73) rfl (List.mem_of_getElem? (i := 2) rfl) dX8_isAccepted_7 ?_
  refine aw_iload_n hK 2 rfl dX8_isAccepted_10 ?_
  obtain ⟨g2, hF⟩ := gd_some hF
  refine aw_iald hK rfl g2 dX8_isAccepted_11 ?_
  refine aw_iand hK dX8_isAccepted_12 ?_
  refine aw_if_eq hK 20 rfl dX8_isAccepted_13 (fun hc => ?_) (fun hc => ?_)
  · have hF := if_t hF hc
    refine aw_iconst hK (0) rfl dX8_isAccepted_20 ?_
    refine aw_sub [0, 1, 3, 4] (lv' := [(0, q_r 70), (1, q_i x1), (3, q_i x3), (4, q_i x4)]) rfl ?_
    exact bk_X8_isAccepted_21 hK hR hF
  · have hF := if_f hF hc
    refine aw_iconst hK (1) rfl dX8_isAccepted_16 ?_
    refine aw_goto hK 21 rfl dX8_isAccepted_17 ?_
    refine aw_sub [0, 1, 3, 4] (lv' := [(0, q_r 70), (1, q_i x1), (3, q_i x3), (4, q_i x4)]) rfl ?_
    exact bk_X8_isAccepted_21 hK hR hF
def B_X8_areAlike_112 (N : Nat) (m : Mem) (x3 : Int32) : Option (Int32 × Mem) :=
  gd (isb x3) <|
  some (x3, m)
set_option maxRecDepth 100000 in
set_option maxHeartbeats 4000000 in
theorem bk_X8_areAlike_112 {N : Nat} {K : KT} {m' : Mem} {r : Int32} (hK : KOK K cX8_areAlike 7 RX8 wsX8_areAlike 0 0 0) (hR : KRet K (some .boolean) (some r) m') {m : Mem} {x3 : Int32} (hF : B_X8_areAlike_112 N m x3 = some (r, m')) : AW K 0 112 [(3, q_i x3)] [] m := by
  unfold B_X8_areAlike_112 at hF
  refine aw_iload_n hK 0 rfl dX8_areAlike_112 ?_
  obtain ⟨g10, hF⟩ := gd_some hF
  obtain ⟨rfl, rfl⟩ := so_inj hF
  exact aw_iret hK hR (isb_narrow g10) dX8_areAlike_113
def B_X8_areAlike_105 (N : Nat) (rec_24 : Mem → Int32 → Int32 → Int32 → Int32 → Option (Int32 × Mem)) (m : Mem) (x1 : Int32) (x2 : Int32) (x4 : Int32) (s0 : Int32) : Option (Int32 × Mem) :=
  bnd (x4 + (1 : Int32)) fun y9 =>
  rec_24 m x1 x2 s0 y9
set_option maxRecDepth 100000 in
set_option maxHeartbeats 4000000 in
theorem bk_X8_areAlike_105 {N : Nat} {K : KT} {m' : Mem} {rec_24 : Mem → Int32 → Int32 → Int32 → Int32 → Option (Int32 × Mem)} {r : Int32} (hK : KOK K cX8_areAlike 7 RX8 wsX8_areAlike 0 0 0) (hR : KRet K (some .boolean) (some r) m') (hrec_24 : ∀ {m : Mem} {x1 : Int32} {x2 : Int32} {x3 : Int32} {x4 : Int32}, rec_24 m x1 x2 x3 x4 = some (r, m') → AW K 0 24 [(0, q_r 70), (1, q_i x1), (2, q_i x2), (3, q_i x3), (4, q_i x4)] [] m) {m : Mem} {x1 : Int32} {x2 : Int32} {x4 : Int32} {s0 : Int32} (hF : B_X8_areAlike_105 N rec_24 m x1 x2 x4 s0 = some (r, m')) : AW K 0 105 [(0, q_r 70), (1, q_i x1), (2, q_i x2), (4, q_i x4)] [q_i s0] m := by
  unfold B_X8_areAlike_105 at hF
  refine aw_istore_n hK [(3, q_i s0), (0, q_r 70), (1, q_i x1), (2, q_i x2), (4, q_i x4)] (by decide) rfl dX8_areAlike_105 ?_
  obtain ⟨y9, hy9, hF⟩ := bnd_some hF
  refine aw_iinc hK (cz := 1) 4 [(4, q_i y9), (3, q_i s0), (0, q_r 70), (1, q_i x1), (2, q_i x2)] (by decide) rfl rfl hy9 rfl dX8_areAlike_106 ?_
  refine aw_goto hK 24 rfl dX8_areAlike_109 ?_
  refine aw_sub [2, 3, 4, 1, 0] (lv' := [(0, q_r 70), (1, q_i x1), (2, q_i x2), (3, q_i s0), (4, q_i y9)]) rfl ?_
  exact hrec_24 hF
def B_X8_areAlike_97 (N : Nat) (rec_24 : Mem → Int32 → Int32 → Int32 → Int32 → Option (Int32 × Mem)) (m : Mem) (x1 : Int32) (x2 : Int32) (x4 : Int32) (s0 : Int32) (s1 : Int32) : Option (Int32 × Mem) :=
  if s1 = s0 then (
    B_X8_areAlike_105 N rec_24 m x1 x2 x4 (1 : Int32)
  ) else (
    B_X8_areAlike_105 N rec_24 m x1 x2 x4 (0 : Int32)
  )
set_option maxRecDepth 100000 in
set_option maxHeartbeats 4000000 in
theorem bk_X8_areAlike_97 {N : Nat} {K : KT} {m' : Mem} {rec_24 : Mem → Int32 → Int32 → Int32 → Int32 → Option (Int32 × Mem)} {r : Int32} (hK : KOK K cX8_areAlike 7 RX8 wsX8_areAlike 0 0 0) (hR : KRet K (some .boolean) (some r) m') (hrec_24 : ∀ {m : Mem} {x1 : Int32} {x2 : Int32} {x3 : Int32} {x4 : Int32}, rec_24 m x1 x2 x3 x4 = some (r, m') → AW K 0 24 [(0, q_r 70), (1, q_i x1), (2, q_i x2), (3, q_i x3), (4, q_i x4)] [] m) {m : Mem} {x1 : Int32} {x2 : Int32} {x4 : Int32} {s0 : Int32} {s1 : Int32} (hF : B_X8_areAlike_97 N rec_24 m x1 x2 x4 s0 s1 = some (r, m')) : AW K 0 97 [(0, q_r 70), (1, q_i x1), (2, q_i x2), (4, q_i x4)] [q_i s0, q_i s1] m := by
  unfold B_X8_areAlike_97 at hF
  refine aw_icmp_ne hK 104 rfl dX8_areAlike_97 (fun hc => ?_) (fun hc => ?_)
  · have hF := if_f hF hc
    refine aw_iconst hK (0) rfl dX8_areAlike_104 ?_
    refine aw_sub [0, 1, 2, 3] (lv' := [(0, q_r 70), (1, q_i x1), (2, q_i x2), (4, q_i x4)]) rfl ?_
    exact bk_X8_areAlike_105 hK hR hrec_24 hF
  · have hF := if_t hF hc
    refine aw_iconst hK (1) rfl dX8_areAlike_100 ?_
    refine aw_goto hK 105 rfl dX8_areAlike_101 ?_
    refine aw_sub [0, 1, 2, 3] (lv' := [(0, q_r 70), (1, q_i x1), (2, q_i x2), (4, q_i x4)]) rfl ?_
    exact bk_X8_areAlike_105 hK hR hrec_24 hF
def B_X8_areAlike_80 (N : Nat) (rec_24 : Mem → Int32 → Int32 → Int32 → Int32 → Option (Int32 × Mem)) (m : Mem) (x1 : Int32) (x2 : Int32) (x4 : Int32) (x6 : Int32) (s0 : Int32) : Option (Int32 × Mem) :=
  if x6 = (-1 : Int32) then (
    B_X8_areAlike_97 N rec_24 m x1 x2 x4 (-1 : Int32) s0
  ) else (
    gd (inb x6 (alen 97)) <|
    B_X8_areAlike_97 N rec_24 m x1 x2 x4 (m 97 (ix x6)) s0
  )
set_option maxRecDepth 100000 in
set_option maxHeartbeats 4000000 in
theorem bk_X8_areAlike_80 {N : Nat} {K : KT} {m' : Mem} {rec_24 : Mem → Int32 → Int32 → Int32 → Int32 → Option (Int32 × Mem)} {r : Int32} (hK : KOK K cX8_areAlike 7 RX8 wsX8_areAlike 0 0 0) (hR : KRet K (some .boolean) (some r) m') (hrec_24 : ∀ {m : Mem} {x1 : Int32} {x2 : Int32} {x3 : Int32} {x4 : Int32}, rec_24 m x1 x2 x3 x4 = some (r, m') → AW K 0 24 [(0, q_r 70), (1, q_i x1), (2, q_i x2), (3, q_i x3), (4, q_i x4)] [] m) {m : Mem} {x1 : Int32} {x2 : Int32} {x4 : Int32} {x6 : Int32} {s0 : Int32} (hF : B_X8_areAlike_80 N rec_24 m x1 x2 x4 x6 s0 = some (r, m')) : AW K 0 80 [(0, q_r 70), (1, q_i x1), (2, q_i x2), (4, q_i x4), (6, q_i x6)] [q_i s0] m := by
  unfold B_X8_areAlike_80 at hF
  refine aw_iload hK 4 rfl dX8_areAlike_80 ?_
  refine aw_iconst hK (-1) rfl dX8_areAlike_82 ?_
  refine aw_icmp_ne hK 90 rfl dX8_areAlike_83 (fun hc => ?_) (fun hc => ?_)
  · have hF := if_f hF hc
    refine aw_aload_n hK 0 rfl dX8_areAlike_90 ?_
    refine gf_8_33 hK rfl (97) rfl (List.mem_of_getElem? (i := 1) rfl) dX8_areAlike_91 ?_
    refine aw_iload hK 4 rfl dX8_areAlike_94 ?_
    obtain ⟨g8, hF⟩ := gd_some hF
    refine aw_iald hK rfl g8 dX8_areAlike_96 ?_
    refine aw_sub [0, 1, 2, 3] (lv' := [(0, q_r 70), (1, q_i x1), (2, q_i x2), (4, q_i x4)]) rfl ?_
    exact bk_X8_areAlike_97 hK hR hrec_24 hF
  · have hF := if_t hF hc
    refine aw_iconst hK (-1) rfl dX8_areAlike_86 ?_
    refine aw_goto hK 97 rfl dX8_areAlike_87 ?_
    refine aw_sub [0, 1, 2, 3] (lv' := [(0, q_r 70), (1, q_i x1), (2, q_i x2), (4, q_i x4)]) rfl ?_
    exact bk_X8_areAlike_97 hK hR hrec_24 hF
def S_X8_areAlike_24 (N : Nat) (rec_24 : Mem → Int32 → Int32 → Int32 → Int32 → Option (Int32 × Mem)) (m : Mem) (x1 : Int32) (x2 : Int32) (x3 : Int32) (x4 : Int32) : Option (Int32 × Mem) :=
  if (8 : Int32) ≤ x4 then (
    B_X8_areAlike_112 N m x3
  ) else (
    if x3 = (0 : Int32) then (
      B_X8_areAlike_112 N m x3
    ) else (
      gd (inb (((8 : Int32) * x1) + x4) (alen 94)) <|
      bnd (m 94 (ix (((8 : Int32) * x1) + x4))) fun y4 =>
      gd (inb (((8 : Int32) * x2) + x4) (alen 94)) <|
      bnd (m 94 (ix (((8 : Int32) * x2) + x4))) fun y6 =>
      if y4 = (-1 : Int32) then (
        B_X8_areAlike_80 N rec_24 m x1 x2 x4 y6 (-1 : Int32)
      ) else (
        gd (inb y4 (alen 97)) <|
        B_X8_areAlike_80 N rec_24 m x1 x2 x4 y6 (m 97 (ix y4))
      )
    )
  )
def L_X8_areAlike_24 (N : Nat) : Nat → Mem → Int32 → Int32 → Int32 → Int32 → Option (Int32 × Mem)
  | 0 => fun _ _ _ _ _ => none
  | f + 1 => S_X8_areAlike_24 N (L_X8_areAlike_24 N f)
set_option maxRecDepth 100000 in
set_option maxHeartbeats 4000000 in
theorem lp_X8_areAlike_24 {N : Nat} {K : KT} {m' : Mem} {r : Int32} (hK : KOK K cX8_areAlike 7 RX8 wsX8_areAlike 0 0 0) (hR : KRet K (some .boolean) (some r) m') : ∀ (f : Nat) {m : Mem} {x1 : Int32} {x2 : Int32} {x3 : Int32} {x4 : Int32}, L_X8_areAlike_24 N f m x1 x2 x3 x4 = some (r, m') → AW K 0 24 [(0, q_r 70), (1, q_i x1), (2, q_i x2), (3, q_i x3), (4, q_i x4)] [] m := by
  intro f
  induction f with
  | zero => intro m x1 x2 x3 x4 hF; cases hF
  | succ f hrec_24 =>
    intro m x1 x2 x3 x4 hF
    have hF : S_X8_areAlike_24 N (L_X8_areAlike_24 N f) m x1 x2 x3 x4 = some (r, m') := hF
    unfold S_X8_areAlike_24 at hF
    refine aw_iload hK 4 rfl dX8_areAlike_24 ?_
    refine aw_bipush hK (8) rfl dX8_areAlike_26 ?_
    refine aw_icmp_ge hK 112 rfl dX8_areAlike_28 (fun hc => ?_) (fun hc => ?_)
    · have hF := if_t hF hc
      refine aw_sub [3] (lv' := [(3, q_i x3)]) rfl ?_
      exact bk_X8_areAlike_112 hK hR hF
    · have hF := if_f hF hc
      refine aw_iload_n hK 3 rfl dX8_areAlike_31 ?_
      refine aw_if_eq hK 112 rfl dX8_areAlike_32 (fun hc => ?_) (fun hc => ?_)
      · have hF := if_t hF hc
        refine aw_sub [3] (lv' := [(3, q_i x3)]) rfl ?_
        exact bk_X8_areAlike_112 hK hR hF
      · have hF := if_f hF hc
        refine aw_aload_n hK 0 rfl dX8_areAlike_35 ?_
        refine gf_8_30 hK rfl (94) rfl (List.mem_of_getElem? (i := 2) rfl) dX8_areAlike_36 ?_
        refine aw_bipush hK (8) rfl dX8_areAlike_39 ?_
        refine aw_iload_n hK 1 rfl dX8_areAlike_41 ?_
        refine aw_imul hK dX8_areAlike_42 ?_
        refine aw_iload hK 4 rfl dX8_areAlike_43 ?_
        refine aw_iadd hK dX8_areAlike_45 ?_
        obtain ⟨g3, hF⟩ := gd_some hF
        refine aw_iald hK rfl g3 dX8_areAlike_46 ?_
        obtain ⟨y4, hy4, hF⟩ := bnd_some hF
        refine aw_nm hy4 ?_
        refine aw_istore hK [(5, q_i y4), (0, q_r 70), (1, q_i x1), (2, q_i x2), (3, q_i x3), (4, q_i x4)] (by decide) rfl dX8_areAlike_47 ?_
        refine aw_aload_n hK 1 rfl dX8_areAlike_49 ?_
        refine gf_8_30 hK rfl (94) rfl (List.mem_of_getElem? (i := 2) rfl) dX8_areAlike_50 ?_
        refine aw_bipush hK (8) rfl dX8_areAlike_53 ?_
        refine aw_iload_n hK 3 rfl dX8_areAlike_55 ?_
        refine aw_imul hK dX8_areAlike_56 ?_
        refine aw_iload hK 5 rfl dX8_areAlike_57 ?_
        refine aw_iadd hK dX8_areAlike_59 ?_
        obtain ⟨g5, hF⟩ := gd_some hF
        refine aw_iald hK rfl g5 dX8_areAlike_60 ?_
        obtain ⟨y6, hy6, hF⟩ := bnd_some hF
        refine aw_nm hy6 ?_
        refine aw_istore hK [(6, q_i y6), (5, q_i y4), (0, q_r 70), (1, q_i x1), (2, q_i x2), (3, q_i x3), (4, q_i x4)] (by decide) rfl dX8_areAlike_61 ?_
        refine aw_iload hK 1 rfl dX8_areAlike_63 ?_
        refine aw_iconst hK (-1) rfl dX8_areAlike_65 ?_
        refine aw_icmp_ne hK 73 rfl dX8_areAlike_66 (fun hc => ?_) (fun hc => ?_)
        · have hF := if_f hF hc
          refine aw_aload_n hK 2 rfl dX8_areAlike_73 ?_
          refine gf_8_33 hK rfl (97) rfl (List.mem_of_getElem? (i := 1) rfl) dX8_areAlike_74 ?_
          refine aw_iload hK 1 rfl dX8_areAlike_77 ?_
          obtain ⟨g7, hF⟩ := gd_some hF
          refine aw_iald hK rfl g7 dX8_areAlike_79 ?_
          refine aw_sub [2, 3, 4, 6, 0] (lv' := [(0, q_r 70), (1, q_i x1), (2, q_i x2), (4, q_i x4), (6, q_i y6)]) rfl ?_
          exact bk_X8_areAlike_80 hK hR hrec_24 hF
        · have hF := if_t hF hc
          refine aw_iconst hK (-1) rfl dX8_areAlike_69 ?_
          refine aw_goto hK 80 rfl dX8_areAlike_70 ?_
          refine aw_sub [2, 3, 4, 6, 0] (lv' := [(0, q_r 70), (1, q_i x1), (2, q_i x2), (4, q_i x4), (6, q_i y6)]) rfl ?_
          exact bk_X8_areAlike_80 hK hR hrec_24 hF
def B_X8_areAlike_20 (N : Nat) (m : Mem) (x1 : Int32) (x2 : Int32) (s0 : Int32) : Option (Int32 × Mem) :=
  L_X8_areAlike_24 N N m x1 x2 s0 (0 : Int32)
set_option maxRecDepth 100000 in
set_option maxHeartbeats 4000000 in
theorem bk_X8_areAlike_20 {N : Nat} {K : KT} {m' : Mem} {r : Int32} (hK : KOK K cX8_areAlike 7 RX8 wsX8_areAlike 0 0 0) (hR : KRet K (some .boolean) (some r) m') {m : Mem} {x1 : Int32} {x2 : Int32} {s0 : Int32} (hF : B_X8_areAlike_20 N m x1 x2 s0 = some (r, m')) : AW K 0 20 [(0, q_r 70), (1, q_i x1), (2, q_i x2)] [q_i s0] m := by
  unfold B_X8_areAlike_20 at hF
  refine aw_istore_n hK [(3, q_i s0), (0, q_r 70), (1, q_i x1), (2, q_i x2)] (by decide) rfl dX8_areAlike_20 ?_
  refine aw_iconst hK (0) rfl dX8_areAlike_21 ?_
  refine aw_istore hK [(4, q_i (0 : Int32)), (3, q_i s0), (0, q_r 70), (1, q_i x1), (2, q_i x2)] (by decide) rfl dX8_areAlike_22 ?_
  refine aw_sub [2, 3, 4, 1, 0] (lv' := [(0, q_r 70), (1, q_i x1), (2, q_i x2), (3, q_i s0), (4, q_i (0 : Int32))]) rfl ?_
  exact lp_X8_areAlike_24 hK hR _ hF
def F_X8_areAlike (N : Nat) (m : Mem) (x1 : Int32) (x2 : Int32) : Option (Int32 × Mem) :=
  gd (inb x1 (alen 97)) <|
  gd (inb x2 (alen 97)) <|
  if (m 97 (ix x1)) = (m 97 (ix x2)) then (
    B_X8_areAlike_20 N m x1 x2 (1 : Int32)
  ) else (
    B_X8_areAlike_20 N m x1 x2 (0 : Int32)
  )
set_option maxRecDepth 100000 in
set_option maxHeartbeats 4000000 in
theorem tr_X8_areAlike {N : Nat} {m m' : Mem} {r : Int32} {x1 : Int32} {x2 : Int32} (hF : F_X8_areAlike N m x1 x2 = some (r, m')) : Tr yX8_areAlike wsX8_areAlike 0 0 [q_r 70, q_i x1, q_i x2] m (some r) m' := by
  refine tr_of (bytes := cX8_areAlike) (maxL := 7) (ret := (some .boolean)) (by decide) rfl (Nat.le_of_ble_eq_true rfl) (fun K hK hR => ?_)
  have hK : KOK K cX8_areAlike 7 RX8 wsX8_areAlike 0 0 0 := hK
  show AW K 0 0 [(0, q_r 70), (1, q_i x1), (2, q_i x2)] [] m
  unfold F_X8_areAlike at hF
  refine aw_aload_n hK 0 rfl dX8_areAlike_0 ?_
  refine gf_8_33 hK rfl (97) rfl (List.mem_of_getElem? (i := 1) rfl) dX8_areAlike_1 ?_
  refine aw_iload_n hK 1 rfl dX8_areAlike_4 ?_
  obtain ⟨g1, hF⟩ := gd_some hF
  refine aw_iald hK rfl g1 dX8_areAlike_5 ?_
  refine aw_aload_n hK 0 rfl dX8_areAlike_6 ?_
  refine gf_8_33 hK rfl (97) rfl (List.mem_of_getElem? (i := 1) rfl) dX8_areAlike_7 ?_
  refine aw_iload_n hK 2 rfl dX8_areAlike_10 ?_
  obtain ⟨g2, hF⟩ := gd_some hF
  refine aw_iald hK rfl g2 dX8_areAlike_11 ?_
  refine aw_icmp_ne hK 19 rfl dX8_areAlike_12 (fun hc => ?_) (fun hc => ?_)
  · have hF := if_f hF hc
    refine aw_iconst hK (0) rfl dX8_areAlike_19 ?_
    refine aw_sub [0, 1, 2] (lv' := [(0, q_r 70), (1, q_i x1), (2, q_i x2)]) rfl ?_
    exact bk_X8_areAlike_20 hK hR hF
  · have hF := if_t hF hc
    refine aw_iconst hK (1) rfl dX8_areAlike_15 ?_
    refine aw_goto hK 20 rfl dX8_areAlike_16 ?_
    refine aw_sub [0, 1, 2] (lv' := [(0, q_r 70), (1, q_i x1), (2, q_i x2)]) rfl ?_
    exact bk_X8_areAlike_20 hK hR hF
