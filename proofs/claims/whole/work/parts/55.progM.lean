def B_X8_rulesOne_109 (N : Nat) (m : Mem) : Option Mem :=
  some m
set_option maxRecDepth 100000 in
set_option maxHeartbeats 4000000 in
theorem bk_X8_rulesOne_109 {N : Nat} {K : KT} {m' : Mem} (hK : KOK K cX8_rulesOne 11 RX8 wsX8_rulesOne 1 0 25) (hR : KRet K none none m') {m : Mem} (hF : B_X8_rulesOne_109 N m = some m') : AW K 0 109 [] [] m := by
  unfold B_X8_rulesOne_109 at hF
  obtain rfl := Option.some.inj hF
  exact aw_vret hK hR dX8_rulesOne_109
def B_X8_rulesOne_93 (N : Nat) (m : Mem) (x3 : Int32) (x8 : Int32) (x9 : Int32) (x10 : Int32) : Option Mem :=
  if x8 = (0 : Int32) then (
    B_X8_rulesOne_109 N m
  ) else (
    calv (F_X8_adds N m x9 x3 x3 (0 : Int32) x10) fun m8 =>
    B_X8_rulesOne_109 N m8
  )
set_option maxRecDepth 100000 in
set_option maxHeartbeats 4000000 in
theorem bk_X8_rulesOne_93 {N : Nat} {K : KT} {m' : Mem} (hK : KOK K cX8_rulesOne 11 RX8 wsX8_rulesOne 1 0 25) (hR : KRet K none none m') {m : Mem} {x3 : Int32} {x8 : Int32} {x9 : Int32} {x10 : Int32} (hF : B_X8_rulesOne_93 N m x3 x8 x9 x10 = some m') : AW K 0 93 [(0, q_r 70), (3, q_i x3), (8, q_i x8), (9, q_i x9), (10, q_i x10)] [] m := by
  unfold B_X8_rulesOne_93 at hF
  refine aw_iload hK 2 rfl dX8_rulesOne_93 ?_
  refine aw_if_eq hK 109 rfl dX8_rulesOne_95 (fun hc => ?_) (fun hc => ?_)
  · have hF := if_t hF hc
    refine aw_sub [] (lv' := []) rfl ?_
    exact bk_X8_rulesOne_109 hK hR hF
  · have hF := if_f hF hc
    refine aw_aload_n hK 0 rfl dX8_rulesOne_98 ?_
    refine aw_iload hK 3 rfl dX8_rulesOne_99 ?_
    refine aw_iload_n hK 1 rfl dX8_rulesOne_101 ?_
    refine aw_iload_n hK 1 rfl dX8_rulesOne_102 ?_
    refine aw_iconst hK (0) rfl dX8_rulesOne_103 ?_
    refine aw_iload hK 4 rfl dX8_rulesOne_104 ?_
    obtain ⟨m8, h7, hF⟩ := calv_some hF
    refine aw_cv hK 8 (as := [q_i x9, q_i x3, q_i x3, q_i (0 : Int32), q_i x10]) (tr_X8_adds h7) gX8_rulesOne_X8_adds rfl rfl rfl (by decide) (na := 5) (by decide +kernel) rfl ⟨by decide, by decide⟩ (Nat.zero_le _) (Nat.le_of_ble_eq_true rfl) dX8_rulesOne_106 ?_
    refine aw_sub [] (lv' := []) rfl ?_
    exact bk_X8_rulesOne_109 hK hR hF
def B_X8_rulesOne_70 (N : Nat) (m : Mem) (x3 : Int32) (x7 : Int32) (x8 : Int32) (x9 : Int32) (x10 : Int32) (s0 : Int32) (s1 : Int32) (s2 : Int32) (s3 : Int32) (s4 : Int32) (s5 : Int32) : Option Mem :=
  calv (F_X8_adds N m s5 s4 s3 s2 (s1 + s0)) fun m4 =>
  if x7 = (-1 : Int32) then (
    B_X8_rulesOne_93 N m4 x3 x8 x9 x10
  ) else (
    calv (F_X8_adds N m4 x9 x3 x3 (0 : Int32) (x10 + (2 : Int32))) fun m6 =>
    B_X8_rulesOne_93 N m6 x3 x8 x9 x10
  )
set_option maxRecDepth 100000 in
set_option maxHeartbeats 4000000 in
theorem bk_X8_rulesOne_70 {N : Nat} {K : KT} {m' : Mem} (hK : KOK K cX8_rulesOne 11 RX8 wsX8_rulesOne 1 0 25) (hR : KRet K none none m') {m : Mem} {x3 : Int32} {x7 : Int32} {x8 : Int32} {x9 : Int32} {x10 : Int32} {s0 : Int32} {s1 : Int32} {s2 : Int32} {s3 : Int32} {s4 : Int32} {s5 : Int32} (hF : B_X8_rulesOne_70 N m x3 x7 x8 x9 x10 s0 s1 s2 s3 s4 s5 = some m') : AW K 0 70 [(0, q_r 70), (3, q_i x3), (7, q_i x7), (8, q_i x8), (9, q_i x9), (10, q_i x10)] [q_i s0, q_i s1, q_i s2, q_i s3, q_i s4, q_i s5, q_r 70] m := by
  unfold B_X8_rulesOne_70 at hF
  refine aw_iadd hK dX8_rulesOne_70 ?_
  obtain ⟨m4, h3, hF⟩ := calv_some hF
  refine aw_cv hK 8 (as := [q_i s5, q_i s4, q_i s3, q_i s2, q_i (s1 + s0)]) (tr_X8_adds h3) gX8_rulesOne_X8_adds rfl rfl rfl (by decide) (na := 5) (by decide +kernel) rfl ⟨by decide, by decide⟩ (Nat.zero_le _) (Nat.le_of_ble_eq_true rfl) dX8_rulesOne_71 ?_
  refine aw_iload hK 2 rfl dX8_rulesOne_74 ?_
  refine aw_iconst hK (-1) rfl dX8_rulesOne_76 ?_
  refine aw_icmp_eq hK 93 rfl dX8_rulesOne_77 (fun hc => ?_) (fun hc => ?_)
  · have hF := if_t hF hc
    refine aw_sub [0, 1, 3, 4, 5] (lv' := [(0, q_r 70), (3, q_i x3), (8, q_i x8), (9, q_i x9), (10, q_i x10)]) rfl ?_
    exact bk_X8_rulesOne_93 hK hR hF
  · have hF := if_f hF hc
    refine aw_aload_n hK 0 rfl dX8_rulesOne_80 ?_
    refine aw_iload hK 4 rfl dX8_rulesOne_81 ?_
    refine aw_iload_n hK 1 rfl dX8_rulesOne_83 ?_
    refine aw_iload_n hK 1 rfl dX8_rulesOne_84 ?_
    refine aw_iconst hK (0) rfl dX8_rulesOne_85 ?_
    refine aw_iload hK 5 rfl dX8_rulesOne_86 ?_
    refine aw_iconst hK (2) rfl dX8_rulesOne_88 ?_
    refine aw_iadd hK dX8_rulesOne_89 ?_
    obtain ⟨m6, h5, hF⟩ := calv_some hF
    refine aw_cv hK 8 (as := [q_i x9, q_i x3, q_i x3, q_i (0 : Int32), q_i (x10 + (2 : Int32))]) (tr_X8_adds h5) gX8_rulesOne_X8_adds rfl rfl rfl (by decide) (na := 5) (by decide +kernel) rfl ⟨by decide, by decide⟩ (Nat.zero_le _) (Nat.le_of_ble_eq_true rfl) dX8_rulesOne_90 ?_
    refine aw_sub [0, 1, 3, 4, 5] (lv' := [(0, q_r 70), (3, q_i x3), (8, q_i x8), (9, q_i x9), (10, q_i x10)]) rfl ?_
    exact bk_X8_rulesOne_93 hK hR hF
def B_X8_rulesOne_38 (N : Nat) (m : Mem) (x3 : Int32) (x9 : Int32) (x10 : Int32) : Option Mem :=
  calv (F_X8_adds N m x9 x3 x3 (0 : Int32) x10) fun m10 =>
  some m10
set_option maxRecDepth 100000 in
set_option maxHeartbeats 4000000 in
theorem bk_X8_rulesOne_38 {N : Nat} {K : KT} {m' : Mem} (hK : KOK K cX8_rulesOne 11 RX8 wsX8_rulesOne 1 0 25) (hR : KRet K none none m') {m : Mem} {x3 : Int32} {x9 : Int32} {x10 : Int32} (hF : B_X8_rulesOne_38 N m x3 x9 x10 = some m') : AW K 0 38 [(0, q_r 70), (3, q_i x3), (9, q_i x9), (10, q_i x10)] [] m := by
  unfold B_X8_rulesOne_38 at hF
  refine aw_aload_n hK 0 rfl dX8_rulesOne_38 ?_
  refine aw_iload hK 2 rfl dX8_rulesOne_39 ?_
  refine aw_iload_n hK 1 rfl dX8_rulesOne_41 ?_
  refine aw_iload_n hK 1 rfl dX8_rulesOne_42 ?_
  refine aw_iconst hK (0) rfl dX8_rulesOne_43 ?_
  refine aw_iload hK 3 rfl dX8_rulesOne_44 ?_
  obtain ⟨m10, h9, hF⟩ := calv_some hF
  refine aw_cv hK 8 (as := [q_i x9, q_i x3, q_i x3, q_i (0 : Int32), q_i x10]) (tr_X8_adds h9) gX8_rulesOne_X8_adds rfl rfl rfl (by decide) (na := 5) (by decide +kernel) rfl ⟨by decide, by decide⟩ (Nat.zero_le _) (Nat.le_of_ble_eq_true rfl) dX8_rulesOne_46 ?_
  obtain rfl := Option.some.inj hF
  exact aw_vret hK hR dX8_rulesOne_49
def B_X8_rulesOne_25 (N : Nat) (m : Mem) (x1 : Int32) (x3 : Int32) (x4 : Int32) (x5 : Int32) (x7 : Int32) (x8 : Int32) (x9 : Int32) (s0 : Int32) (s1 : Int32) : Option Mem :=
  bnd (s1 * s0) fun y2 =>
  if x3 = x4 then (
    if x1 = (0 : Int32) then (
      B_X8_rulesOne_38 N m x3 x9 y2
    ) else (
      if x7 = (-1 : Int32) then (
        B_X8_rulesOne_70 N m x3 x7 x8 x9 y2 (0 : Int32) y2 (0 : Int32) x5 x3 x9
      ) else (
        B_X8_rulesOne_70 N m x3 x7 x8 x9 y2 (1 : Int32) y2 (0 : Int32) x5 x3 x9
      )
    )
  ) else (
    B_X8_rulesOne_38 N m x3 x9 y2
  )
set_option maxRecDepth 100000 in
set_option maxHeartbeats 4000000 in
theorem bk_X8_rulesOne_25 {N : Nat} {K : KT} {m' : Mem} (hK : KOK K cX8_rulesOne 11 RX8 wsX8_rulesOne 1 0 25) (hR : KRet K none none m') {m : Mem} {x1 : Int32} {x3 : Int32} {x4 : Int32} {x5 : Int32} {x7 : Int32} {x8 : Int32} {x9 : Int32} {s0 : Int32} {s1 : Int32} (hF : B_X8_rulesOne_25 N m x1 x3 x4 x5 x7 x8 x9 s0 s1 = some m') : AW K 0 25 [(0, q_r 70), (1, q_i x1), (3, q_i x3), (4, q_i x4), (5, q_i x5), (7, q_i x7), (8, q_i x8), (9, q_i x9)] [q_i s0, q_i s1] m := by
  unfold B_X8_rulesOne_25 at hF
  refine aw_imul hK dX8_rulesOne_25 ?_
  obtain ⟨y2, hy2, hF⟩ := bnd_some hF
  refine aw_nm hy2 ?_
  refine aw_istore hK [(10, q_i y2), (0, q_r 70), (1, q_i x1), (3, q_i x3), (4, q_i x4), (5, q_i x5), (7, q_i x7), (8, q_i x8), (9, q_i x9)] (by decide) rfl dX8_rulesOne_26 ?_
  refine aw_iload_n hK 3 rfl dX8_rulesOne_28 ?_
  refine aw_iload hK 4 rfl dX8_rulesOne_29 ?_
  refine aw_icmp_ne hK 38 rfl dX8_rulesOne_31 (fun hc => ?_) (fun hc => ?_)
  · have hF := if_f hF hc
    refine aw_sub [1, 3, 8, 0] (lv' := [(0, q_r 70), (3, q_i x3), (9, q_i x9), (10, q_i y2)]) rfl ?_
    exact bk_X8_rulesOne_38 hK hR hF
  · have hF := if_t hF hc
    refine aw_iload_n hK 2 rfl dX8_rulesOne_34 ?_
    refine aw_if_ne hK 50 rfl dX8_rulesOne_35 (fun hc => ?_) (fun hc => ?_)
    · have hF := if_f hF hc
      refine aw_aload_n hK 1 rfl dX8_rulesOne_50 ?_
      refine aw_iload hK 8 rfl dX8_rulesOne_51 ?_
      refine aw_iload_n hK 3 rfl dX8_rulesOne_53 ?_
      refine aw_iload hK 5 rfl dX8_rulesOne_54 ?_
      refine aw_iconst hK (0) rfl dX8_rulesOne_56 ?_
      refine aw_iload hK 0 rfl dX8_rulesOne_57 ?_
      refine aw_iload hK 6 rfl dX8_rulesOne_59 ?_
      refine aw_iconst hK (-1) rfl dX8_rulesOne_61 ?_
      refine aw_icmp_ne hK 69 rfl dX8_rulesOne_62 (fun hc => ?_) (fun hc => ?_)
      · have hF := if_f hF hc
        refine aw_iconst hK (1) rfl dX8_rulesOne_69 ?_
        refine aw_sub [1, 3, 6, 7, 8, 0] (lv' := [(0, q_r 70), (3, q_i x3), (7, q_i x7), (8, q_i x8), (9, q_i x9), (10, q_i y2)]) rfl ?_
        exact bk_X8_rulesOne_70 hK hR hF
      · have hF := if_t hF hc
        refine aw_iconst hK (0) rfl dX8_rulesOne_65 ?_
        refine aw_goto hK 70 rfl dX8_rulesOne_66 ?_
        refine aw_sub [1, 3, 6, 7, 8, 0] (lv' := [(0, q_r 70), (3, q_i x3), (7, q_i x7), (8, q_i x8), (9, q_i x9), (10, q_i y2)]) rfl ?_
        exact bk_X8_rulesOne_70 hK hR hF
    · have hF := if_t hF hc
      refine aw_sub [1, 3, 8, 0] (lv' := [(0, q_r 70), (3, q_i x3), (9, q_i x9), (10, q_i y2)]) rfl ?_
      exact bk_X8_rulesOne_38 hK hR hF
def B_X8_rulesOne_20 (N : Nat) (m : Mem) (x1 : Int32) (x3 : Int32) (x4 : Int32) (x5 : Int32) (x7 : Int32) (x8 : Int32) (x9 : Int32) (s0 : Int32) : Option Mem :=
  B_X8_rulesOne_25 N m x1 x3 x4 x5 x7 x8 x9 (1 : Int32) s0
set_option maxRecDepth 100000 in
set_option maxHeartbeats 4000000 in
theorem bk_X8_rulesOne_20 {N : Nat} {K : KT} {m' : Mem} (hK : KOK K cX8_rulesOne 11 RX8 wsX8_rulesOne 1 0 25) (hR : KRet K none none m') {m : Mem} {x1 : Int32} {x3 : Int32} {x4 : Int32} {x5 : Int32} {x7 : Int32} {x8 : Int32} {x9 : Int32} {s0 : Int32} (hF : B_X8_rulesOne_20 N m x1 x3 x4 x5 x7 x8 x9 s0 = some m') : AW K 0 20 [(0, q_r 70), (1, q_i x1), (3, q_i x3), (4, q_i x4), (5, q_i x5), (7, q_i x7), (8, q_i x8), (9, q_i x9)] [q_i s0] m := by
  unfold B_X8_rulesOne_20 at hF
  refine aw_iconst hK (1) rfl dX8_rulesOne_20 ?_
  refine aw_goto hK 25 rfl dX8_rulesOne_21 ?_
  refine aw_sub [0, 1, 2, 3, 4, 5, 6, 7] (lv' := [(0, q_r 70), (1, q_i x1), (3, q_i x3), (4, q_i x4), (5, q_i x5), (7, q_i x7), (8, q_i x8), (9, q_i x9)]) rfl ?_
  exact bk_X8_rulesOne_25 hK hR hF
def F_X8_rulesOne (N : Nat) (m : Mem) (x1 : Int32) (x2 : Int32) (x3 : Int32) (x4 : Int32) (x5 : Int32) (x6 : Int32) (x7 : Int32) (x8 : Int32) : Option Mem :=
  bnd (((3 : Int32) * x1) + x2) fun y1 =>
  if x6 = (-1 : Int32) then (
    B_X8_rulesOne_20 N m x1 x3 x4 x5 x7 x8 y1 (3 : Int32)
  ) else (
    if x3 = x6 then (
      B_X8_rulesOne_20 N m x1 x3 x4 x5 x7 x8 y1 (3 : Int32)
    ) else (
      B_X8_rulesOne_25 N m x1 x3 x4 x5 x7 x8 y1 (0 : Int32) (3 : Int32)
    )
  )
set_option maxRecDepth 100000 in
set_option maxHeartbeats 4000000 in
theorem tr_X8_rulesOne {N : Nat} {m m' : Mem} {x1 : Int32} {x2 : Int32} {x3 : Int32} {x4 : Int32} {x5 : Int32} {x6 : Int32} {x7 : Int32} {x8 : Int32} (hF : F_X8_rulesOne N m x1 x2 x3 x4 x5 x6 x7 x8 = some m') : Tr yX8_rulesOne wsX8_rulesOne 1 25 [q_r 70, q_i x1, q_i x2, q_i x3, q_i x4, q_i x5, q_i x6, q_i x7, q_i x8] m none m' := by
  refine tr_of (bytes := cX8_rulesOne) (maxL := 11) (ret := none) (by decide) rfl (Nat.le_of_ble_eq_true rfl) (fun K hK hR => ?_)
  have hK : KOK K cX8_rulesOne 11 RX8 wsX8_rulesOne 1 0 25 := hK
  show AW K 0 0 [(0, q_r 70), (1, q_i x1), (2, q_i x2), (3, q_i x3), (4, q_i x4), (5, q_i x5), (6, q_i x6), (7, q_i x7), (8, q_i x8)] [] m
  unfold F_X8_rulesOne at hF
  refine aw_iconst hK (3) rfl dX8_rulesOne_0 ?_
  refine aw_iload_n hK 1 rfl dX8_rulesOne_1 ?_
  refine aw_imul hK dX8_rulesOne_2 ?_
  refine aw_iload_n hK 2 rfl dX8_rulesOne_3 ?_
  refine aw_iadd hK dX8_rulesOne_4 ?_
  obtain ⟨y1, hy1, hF⟩ := bnd_some hF
  refine aw_nm hy1 ?_
  refine aw_istore hK [(9, q_i y1), (0, q_r 70), (1, q_i x1), (2, q_i x2), (3, q_i x3), (4, q_i x4), (5, q_i x5), (6, q_i x6), (7, q_i x7), (8, q_i x8)] (by decide) rfl dX8_rulesOne_5 ?_
  refine aw_iconst hK (3) rfl dX8_rulesOne_7 ?_
  refine aw_iload hK 7 rfl dX8_rulesOne_8 ?_
  refine aw_iconst hK (-1) rfl dX8_rulesOne_10 ?_
  refine aw_icmp_eq hK 20 rfl dX8_rulesOne_11 (fun hc => ?_) (fun hc => ?_)
  · have hF := if_t hF hc
    refine aw_sub [1, 2, 4, 5, 6, 8, 9, 0] (lv' := [(0, q_r 70), (1, q_i x1), (3, q_i x3), (4, q_i x4), (5, q_i x5), (7, q_i x7), (8, q_i x8), (9, q_i y1)]) rfl ?_
    exact bk_X8_rulesOne_20 hK hR hF
  · have hF := if_f hF hc
    refine aw_iload_n hK 4 rfl dX8_rulesOne_14 ?_
    refine aw_iload hK 7 rfl dX8_rulesOne_15 ?_
    refine aw_icmp_ne hK 24 rfl dX8_rulesOne_17 (fun hc => ?_) (fun hc => ?_)
    · have hF := if_f hF hc
      refine aw_iconst hK (0) rfl dX8_rulesOne_24 ?_
      refine aw_sub [1, 2, 4, 5, 6, 8, 9, 0] (lv' := [(0, q_r 70), (1, q_i x1), (3, q_i x3), (4, q_i x4), (5, q_i x5), (7, q_i x7), (8, q_i x8), (9, q_i y1)]) rfl ?_
      exact bk_X8_rulesOne_25 hK hR hF
    · have hF := if_t hF hc
      refine aw_sub [1, 2, 4, 5, 6, 8, 9, 0] (lv' := [(0, q_r 70), (1, q_i x1), (3, q_i x3), (4, q_i x4), (5, q_i x5), (7, q_i x7), (8, q_i x8), (9, q_i y1)]) rfl ?_
      exact bk_X8_rulesOne_20 hK hR hF
def B_X8_rules_123 (N : Nat) (m : Mem) (s0 : Int32) : Option (Int32 × Mem) :=
  cal (F_X8_trims N m s0) fun r12 m11 =>
  gd (isb r12) <|
  some (r12, m11)
set_option maxRecDepth 100000 in
set_option maxHeartbeats 4000000 in
theorem bk_X8_rules_123 {N : Nat} {K : KT} {m' : Mem} {r : Int32} (hK : KOK K cX8_rules 8 RX8 wsX8_rules 3 0 70) (hR : KRet K (some .boolean) (some r) m') {m : Mem} {s0 : Int32} (hF : B_X8_rules_123 N m s0 = some (r, m')) : AW K 0 123 [] [q_i s0, q_r 70] m := by
  unfold B_X8_rules_123 at hF
  obtain ⟨r12, m11, h10, hF⟩ := cal_some hF
  refine aw_cv hK 8 (as := [q_i s0]) (tr_X8_trims h10) gX8_rules_X8_trims rfl rfl rfl (by decide) (na := 1) (by decide +kernel) rfl ⟨by decide, by decide⟩ (Nat.zero_le _) (Nat.le_of_ble_eq_true rfl) dX8_rules_123 ?_
  obtain ⟨g13, hF⟩ := gd_some hF
  obtain ⟨rfl, rfl⟩ := so_inj hF
  exact aw_iret hK hR (isb_narrow g13) dX8_rules_126
def B_X8_rules_100 (N : Nat) (rec_7 : Mem → Int32 → Int32 → Int32 → Int32 → Int32 → Int32 → Option (Int32 × Mem)) (rec_37 : Mem → Int32 → Int32 → Int32 → Int32 → Int32 → Int32 → Int32 → Option (Int32 × Mem)) (m : Mem) (x1 : Int32) (x2 : Int32) (x3 : Int32) (x4 : Int32) (x5 : Int32) (x6 : Int32) (x7 : Int32) : Option (Int32 × Mem) :=
  bnd (x7 + (1 : Int32)) fun y7 =>
  rec_37 m x1 x2 x3 x4 x5 x6 y7
set_option maxRecDepth 100000 in
set_option maxHeartbeats 4000000 in
theorem bk_X8_rules_100 {N : Nat} {K : KT} {m' : Mem} {rec_7 : Mem → Int32 → Int32 → Int32 → Int32 → Int32 → Int32 → Option (Int32 × Mem)} {rec_37 : Mem → Int32 → Int32 → Int32 → Int32 → Int32 → Int32 → Int32 → Option (Int32 × Mem)} {r : Int32} (hK : KOK K cX8_rules 8 RX8 wsX8_rules 3 0 70) (hR : KRet K (some .boolean) (some r) m') (hrec_7 : ∀ {m : Mem} {x1 : Int32} {x2 : Int32} {x3 : Int32} {x4 : Int32} {x5 : Int32} {x6 : Int32}, rec_7 m x1 x2 x3 x4 x5 x6 = some (r, m') → AW K 0 7 [(0, q_r 70), (1, q_i x1), (2, q_i x2), (3, q_i x3), (4, q_i x4), (5, q_i x5), (6, q_i x6)] [] m) (hrec_37 : ∀ {m : Mem} {x1 : Int32} {x2 : Int32} {x3 : Int32} {x4 : Int32} {x5 : Int32} {x6 : Int32} {x7 : Int32}, rec_37 m x1 x2 x3 x4 x5 x6 x7 = some (r, m') → AW K 0 37 [(0, q_r 70), (1, q_i x1), (2, q_i x2), (3, q_i x3), (4, q_i x4), (5, q_i x5), (6, q_i x6), (7, q_i x7)] [] m) {m : Mem} {x1 : Int32} {x2 : Int32} {x3 : Int32} {x4 : Int32} {x5 : Int32} {x6 : Int32} {x7 : Int32} (hF : B_X8_rules_100 N rec_7 rec_37 m x1 x2 x3 x4 x5 x6 x7 = some (r, m')) : AW K 0 100 [(0, q_r 70), (1, q_i x1), (2, q_i x2), (3, q_i x3), (4, q_i x4), (5, q_i x5), (6, q_i x6), (7, q_i x7)] [] m := by
  unfold B_X8_rules_100 at hF
  obtain ⟨y7, hy7, hF⟩ := bnd_some hF
  refine aw_iinc hK (cz := 1) 7 [(7, q_i y7), (0, q_r 70), (1, q_i x1), (2, q_i x2), (3, q_i x3), (4, q_i x4), (5, q_i x5), (6, q_i x6)] (by decide) rfl rfl hy7 rfl dX8_rules_100 ?_
  refine aw_goto hK 37 rfl dX8_rules_103 ?_
  refine aw_sub [1, 2, 3, 4, 5, 6, 7, 0] (lv' := [(0, q_r 70), (1, q_i x1), (2, q_i x2), (3, q_i x3), (4, q_i x4), (5, q_i x5), (6, q_i x6), (7, q_i y7)]) rfl ?_
  exact hrec_37 hF
def B_X8_rules_79 (N : Nat) (rec_7 : Mem → Int32 → Int32 → Int32 → Int32 → Int32 → Int32 → Option (Int32 × Mem)) (rec_37 : Mem → Int32 → Int32 → Int32 → Int32 → Int32 → Int32 → Int32 → Option (Int32 × Mem)) (m : Mem) (x1 : Int32) (x2 : Int32) (x3 : Int32) (x4 : Int32) (x5 : Int32) (x6 : Int32) (x7 : Int32) : Option (Int32 × Mem) :=
  calv (F_X8_rulesOne N m (x6 / (3 : Int32)) (q_rem x6 (3 : Int32)) x7 x1 x2 x3 x4 x5) fun m9 =>
  B_X8_rules_100 N rec_7 rec_37 m9 x1 x2 x3 x4 x5 x6 x7
set_option maxRecDepth 100000 in
set_option maxHeartbeats 4000000 in
theorem bk_X8_rules_79 {N : Nat} {K : KT} {m' : Mem} {rec_7 : Mem → Int32 → Int32 → Int32 → Int32 → Int32 → Int32 → Option (Int32 × Mem)} {rec_37 : Mem → Int32 → Int32 → Int32 → Int32 → Int32 → Int32 → Int32 → Option (Int32 × Mem)} {r : Int32} (hK : KOK K cX8_rules 8 RX8 wsX8_rules 3 0 70) (hR : KRet K (some .boolean) (some r) m') (hrec_7 : ∀ {m : Mem} {x1 : Int32} {x2 : Int32} {x3 : Int32} {x4 : Int32} {x5 : Int32} {x6 : Int32}, rec_7 m x1 x2 x3 x4 x5 x6 = some (r, m') → AW K 0 7 [(0, q_r 70), (1, q_i x1), (2, q_i x2), (3, q_i x3), (4, q_i x4), (5, q_i x5), (6, q_i x6)] [] m) (hrec_37 : ∀ {m : Mem} {x1 : Int32} {x2 : Int32} {x3 : Int32} {x4 : Int32} {x5 : Int32} {x6 : Int32} {x7 : Int32}, rec_37 m x1 x2 x3 x4 x5 x6 x7 = some (r, m') → AW K 0 37 [(0, q_r 70), (1, q_i x1), (2, q_i x2), (3, q_i x3), (4, q_i x4), (5, q_i x5), (6, q_i x6), (7, q_i x7)] [] m) {m : Mem} {x1 : Int32} {x2 : Int32} {x3 : Int32} {x4 : Int32} {x5 : Int32} {x6 : Int32} {x7 : Int32} (hF : B_X8_rules_79 N rec_7 rec_37 m x1 x2 x3 x4 x5 x6 x7 = some (r, m')) : AW K 0 79 [(0, q_r 70), (1, q_i x1), (2, q_i x2), (3, q_i x3), (4, q_i x4), (5, q_i x5), (6, q_i x6), (7, q_i x7)] [] m := by
  unfold B_X8_rules_79 at hF
  refine aw_aload_n hK 0 rfl dX8_rules_79 ?_
  refine aw_iload hK 6 rfl dX8_rules_80 ?_
  refine aw_iconst hK (3) rfl dX8_rules_82 ?_
  refine aw_idiv hK (by decide) dX8_rules_83 ?_
  refine aw_iload hK 6 rfl dX8_rules_84 ?_
  refine aw_iconst hK (3) rfl dX8_rules_86 ?_
  refine aw_irem hK (by decide) dX8_rules_87 ?_
  refine aw_iload hK 7 rfl dX8_rules_88 ?_
  refine aw_iload_n hK 1 rfl dX8_rules_90 ?_
  refine aw_iload_n hK 2 rfl dX8_rules_91 ?_
  refine aw_iload_n hK 3 rfl dX8_rules_92 ?_
  refine aw_iload hK 4 rfl dX8_rules_93 ?_
  refine aw_iload hK 5 rfl dX8_rules_95 ?_
  obtain ⟨m9, h8, hF⟩ := calv_some hF
  refine aw_cv hK 8 (as := [q_i (x6 / (3 : Int32)), q_i (q_rem x6 (3 : Int32)), q_i x7, q_i x1, q_i x2, q_i x3, q_i x4, q_i x5]) (tr_X8_rulesOne h8) gX8_rules_X8_rulesOne rfl rfl rfl (by decide) (na := 8) (by decide +kernel) rfl ⟨by decide, by decide⟩ (Nat.zero_le _) (Nat.le_of_ble_eq_true rfl) dX8_rules_97 ?_
  refine aw_sub [0, 1, 2, 3, 4, 5, 6, 7] (lv' := [(0, q_r 70), (1, q_i x1), (2, q_i x2), (3, q_i x3), (4, q_i x4), (5, q_i x5), (6, q_i x6), (7, q_i x7)]) rfl ?_
  exact bk_X8_rules_100 hK hR hrec_7 hrec_37 hF
def B_X8_rules_76 (N : Nat) (rec_7 : Mem → Int32 → Int32 → Int32 → Int32 → Int32 → Int32 → Option (Int32 × Mem)) (rec_37 : Mem → Int32 → Int32 → Int32 → Int32 → Int32 → Int32 → Int32 → Option (Int32 × Mem)) (m : Mem) (x1 : Int32) (x2 : Int32) (x3 : Int32) (x4 : Int32) (x5 : Int32) (x6 : Int32) (x7 : Int32) (s0 : Int32) (s1 : Int32) : Option (Int32 × Mem) :=
  if s1 = s0 then (
    B_X8_rules_79 N rec_7 rec_37 m x1 x2 x3 x4 x5 x6 x7
  ) else (
    B_X8_rules_100 N rec_7 rec_37 m x1 x2 x3 x4 x5 x6 x7
  )
set_option maxRecDepth 100000 in
set_option maxHeartbeats 4000000 in
theorem bk_X8_rules_76 {N : Nat} {K : KT} {m' : Mem} {rec_7 : Mem → Int32 → Int32 → Int32 → Int32 → Int32 → Int32 → Option (Int32 × Mem)} {rec_37 : Mem → Int32 → Int32 → Int32 → Int32 → Int32 → Int32 → Int32 → Option (Int32 × Mem)} {r : Int32} (hK : KOK K cX8_rules 8 RX8 wsX8_rules 3 0 70) (hR : KRet K (some .boolean) (some r) m') (hrec_7 : ∀ {m : Mem} {x1 : Int32} {x2 : Int32} {x3 : Int32} {x4 : Int32} {x5 : Int32} {x6 : Int32}, rec_7 m x1 x2 x3 x4 x5 x6 = some (r, m') → AW K 0 7 [(0, q_r 70), (1, q_i x1), (2, q_i x2), (3, q_i x3), (4, q_i x4), (5, q_i x5), (6, q_i x6)] [] m) (hrec_37 : ∀ {m : Mem} {x1 : Int32} {x2 : Int32} {x3 : Int32} {x4 : Int32} {x5 : Int32} {x6 : Int32} {x7 : Int32}, rec_37 m x1 x2 x3 x4 x5 x6 x7 = some (r, m') → AW K 0 37 [(0, q_r 70), (1, q_i x1), (2, q_i x2), (3, q_i x3), (4, q_i x4), (5, q_i x5), (6, q_i x6), (7, q_i x7)] [] m) {m : Mem} {x1 : Int32} {x2 : Int32} {x3 : Int32} {x4 : Int32} {x5 : Int32} {x6 : Int32} {x7 : Int32} {s0 : Int32} {s1 : Int32} (hF : B_X8_rules_76 N rec_7 rec_37 m x1 x2 x3 x4 x5 x6 x7 s0 s1 = some (r, m')) : AW K 0 76 [(0, q_r 70), (1, q_i x1), (2, q_i x2), (3, q_i x3), (4, q_i x4), (5, q_i x5), (6, q_i x6), (7, q_i x7)] [q_i s0, q_i s1] m := by
  unfold B_X8_rules_76 at hF
  refine aw_icmp_ne hK 100 rfl dX8_rules_76 (fun hc => ?_) (fun hc => ?_)
  · have hF := if_f hF hc
    refine aw_sub [0, 1, 2, 3, 4, 5, 6, 7] (lv' := [(0, q_r 70), (1, q_i x1), (2, q_i x2), (3, q_i x3), (4, q_i x4), (5, q_i x5), (6, q_i x6), (7, q_i x7)]) rfl ?_
    exact bk_X8_rules_100 hK hR hrec_7 hrec_37 hF
  · have hF := if_t hF hc
    refine aw_sub [0, 1, 2, 3, 4, 5, 6, 7] (lv' := [(0, q_r 70), (1, q_i x1), (2, q_i x2), (3, q_i x3), (4, q_i x4), (5, q_i x5), (6, q_i x6), (7, q_i x7)]) rfl ?_
    exact bk_X8_rules_79 hK hR hrec_7 hrec_37 hF
def B_X8_rules_63 (N : Nat) (rec_7 : Mem → Int32 → Int32 → Int32 → Int32 → Int32 → Int32 → Option (Int32 × Mem)) (rec_37 : Mem → Int32 → Int32 → Int32 → Int32 → Int32 → Int32 → Int32 → Option (Int32 × Mem)) (m : Mem) (x1 : Int32) (x2 : Int32) (x3 : Int32) (x4 : Int32) (x5 : Int32) (x6 : Int32) (x7 : Int32) (s0 : Int32) : Option (Int32 × Mem) :=
  if (q_rem x6 (3 : Int32)) = (1 : Int32) then (
    B_X8_rules_76 N rec_7 rec_37 m x1 x2 x3 x4 x5 x6 x7 (1 : Int32) s0
  ) else (
    B_X8_rules_76 N rec_7 rec_37 m x1 x2 x3 x4 x5 x6 x7 (0 : Int32) s0
  )
set_option maxRecDepth 100000 in
set_option maxHeartbeats 4000000 in
theorem bk_X8_rules_63 {N : Nat} {K : KT} {m' : Mem} {rec_7 : Mem → Int32 → Int32 → Int32 → Int32 → Int32 → Int32 → Option (Int32 × Mem)} {rec_37 : Mem → Int32 → Int32 → Int32 → Int32 → Int32 → Int32 → Int32 → Option (Int32 × Mem)} {r : Int32} (hK : KOK K cX8_rules 8 RX8 wsX8_rules 3 0 70) (hR : KRet K (some .boolean) (some r) m') (hrec_7 : ∀ {m : Mem} {x1 : Int32} {x2 : Int32} {x3 : Int32} {x4 : Int32} {x5 : Int32} {x6 : Int32}, rec_7 m x1 x2 x3 x4 x5 x6 = some (r, m') → AW K 0 7 [(0, q_r 70), (1, q_i x1), (2, q_i x2), (3, q_i x3), (4, q_i x4), (5, q_i x5), (6, q_i x6)] [] m) (hrec_37 : ∀ {m : Mem} {x1 : Int32} {x2 : Int32} {x3 : Int32} {x4 : Int32} {x5 : Int32} {x6 : Int32} {x7 : Int32}, rec_37 m x1 x2 x3 x4 x5 x6 x7 = some (r, m') → AW K 0 37 [(0, q_r 70), (1, q_i x1), (2, q_i x2), (3, q_i x3), (4, q_i x4), (5, q_i x5), (6, q_i x6), (7, q_i x7)] [] m) {m : Mem} {x1 : Int32} {x2 : Int32} {x3 : Int32} {x4 : Int32} {x5 : Int32} {x6 : Int32} {x7 : Int32} {s0 : Int32} (hF : B_X8_rules_63 N rec_7 rec_37 m x1 x2 x3 x4 x5 x6 x7 s0 = some (r, m')) : AW K 0 63 [(0, q_r 70), (1, q_i x1), (2, q_i x2), (3, q_i x3), (4, q_i x4), (5, q_i x5), (6, q_i x6), (7, q_i x7)] [q_i s0] m := by
  unfold B_X8_rules_63 at hF
  refine aw_iload hK 6 rfl dX8_rules_63 ?_
  refine aw_iconst hK (3) rfl dX8_rules_65 ?_
  refine aw_irem hK (by decide) dX8_rules_66 ?_
  refine aw_iconst hK (1) rfl dX8_rules_67 ?_
  refine aw_icmp_ne hK 75 rfl dX8_rules_68 (fun hc => ?_) (fun hc => ?_)
  · have hF := if_f hF hc
    refine aw_iconst hK (0) rfl dX8_rules_75 ?_
    refine aw_sub [0, 1, 2, 3, 4, 5, 6, 7] (lv' := [(0, q_r 70), (1, q_i x1), (2, q_i x2), (3, q_i x3), (4, q_i x4), (5, q_i x5), (6, q_i x6), (7, q_i x7)]) rfl ?_
    exact bk_X8_rules_76 hK hR hrec_7 hrec_37 hF
  · have hF := if_t hF hc
    refine aw_iconst hK (1) rfl dX8_rules_71 ?_
    refine aw_goto hK 76 rfl dX8_rules_72 ?_
    refine aw_sub [0, 1, 2, 3, 4, 5, 6, 7] (lv' := [(0, q_r 70), (1, q_i x1), (2, q_i x2), (3, q_i x3), (4, q_i x4), (5, q_i x5), (6, q_i x6), (7, q_i x7)]) rfl ?_
    exact bk_X8_rules_76 hK hR hrec_7 hrec_37 hF
def S_X8_rules_37 (N : Nat) (rec_7 : Mem → Int32 → Int32 → Int32 → Int32 → Int32 → Int32 → Option (Int32 × Mem)) (rec_37 : Mem → Int32 → Int32 → Int32 → Int32 → Int32 → Int32 → Int32 → Option (Int32 × Mem)) (m : Mem) (x1 : Int32) (x2 : Int32) (x3 : Int32) (x4 : Int32) (x5 : Int32) (x6 : Int32) (x7 : Int32) : Option (Int32 × Mem) :=
  if (8 : Int32) ≤ x7 then (
    bnd (x6 + (1 : Int32)) fun y6 =>
    rec_7 m x1 x2 x3 x4 x5 y6
  ) else (
    if (q_rem x6 (3 : Int32)) = (0 : Int32) then (
      B_X8_rules_79 N rec_7 rec_37 m x1 x2 x3 x4 x5 x6 x7
    ) else (
      if x7 = x4 then (
        B_X8_rules_63 N rec_7 rec_37 m x1 x2 x3 x4 x5 x6 x7 (1 : Int32)
      ) else (
        B_X8_rules_63 N rec_7 rec_37 m x1 x2 x3 x4 x5 x6 x7 (0 : Int32)
      )
    )
  )
def L_X8_rules_37 (N : Nat) (rec_7 : Mem → Int32 → Int32 → Int32 → Int32 → Int32 → Int32 → Option (Int32 × Mem)) : Nat → Mem → Int32 → Int32 → Int32 → Int32 → Int32 → Int32 → Int32 → Option (Int32 × Mem)
  | 0 => fun _ _ _ _ _ _ _ _ => none
  | f + 1 => S_X8_rules_37 N rec_7 (L_X8_rules_37 N rec_7 f)
set_option maxRecDepth 100000 in
set_option maxHeartbeats 4000000 in
theorem lp_X8_rules_37 {N : Nat} {K : KT} {m' : Mem} {rec_7 : Mem → Int32 → Int32 → Int32 → Int32 → Int32 → Int32 → Option (Int32 × Mem)} {r : Int32} (hK : KOK K cX8_rules 8 RX8 wsX8_rules 3 0 70) (hR : KRet K (some .boolean) (some r) m') (hrec_7 : ∀ {m : Mem} {x1 : Int32} {x2 : Int32} {x3 : Int32} {x4 : Int32} {x5 : Int32} {x6 : Int32}, rec_7 m x1 x2 x3 x4 x5 x6 = some (r, m') → AW K 0 7 [(0, q_r 70), (1, q_i x1), (2, q_i x2), (3, q_i x3), (4, q_i x4), (5, q_i x5), (6, q_i x6)] [] m) : ∀ (f : Nat) {m : Mem} {x1 : Int32} {x2 : Int32} {x3 : Int32} {x4 : Int32} {x5 : Int32} {x6 : Int32} {x7 : Int32}, L_X8_rules_37 N rec_7 f m x1 x2 x3 x4 x5 x6 x7 = some (r, m') → AW K 0 37 [(0, q_r 70), (1, q_i x1), (2, q_i x2), (3, q_i x3), (4, q_i x4), (5, q_i x5), (6, q_i x6), (7, q_i x7)] [] m := by
  intro f
  induction f with
  | zero => intro m x1 x2 x3 x4 x5 x6 x7 hF; cases hF
  | succ f hrec_37 =>
    intro m x1 x2 x3 x4 x5 x6 x7 hF
    have hF : S_X8_rules_37 N rec_7 (L_X8_rules_37 N rec_7 f) m x1 x2 x3 x4 x5 x6 x7 = some (r, m') := hF
    unfold S_X8_rules_37 at hF
    refine aw_iload hK 7 rfl dX8_rules_37 ?_
    refine aw_bipush hK (8) rfl dX8_rules_39 ?_
    refine aw_icmp_ge hK 106 rfl dX8_rules_41 (fun hc => ?_) (fun hc => ?_)
    · have hF := if_t hF hc
      obtain ⟨y6, hy6, hF⟩ := bnd_some hF
      refine aw_iinc hK (cz := 1) 6 [(6, q_i y6), (0, q_r 70), (1, q_i x1), (2, q_i x2), (3, q_i x3), (4, q_i x4), (5, q_i x5), (7, q_i x7)] (by decide) rfl rfl hy6 rfl dX8_rules_106 ?_
      refine aw_goto hK 7 rfl dX8_rules_109 ?_
      refine aw_sub [1, 2, 3, 4, 5, 6, 0] (lv' := [(0, q_r 70), (1, q_i x1), (2, q_i x2), (3, q_i x3), (4, q_i x4), (5, q_i x5), (6, q_i y6)]) rfl ?_
      exact hrec_7 hF
    · have hF := if_f hF hc
      refine aw_iload hK 6 rfl dX8_rules_44 ?_
      refine aw_iconst hK (3) rfl dX8_rules_46 ?_
      refine aw_irem hK (by decide) dX8_rules_47 ?_
      refine aw_if_eq hK 79 rfl dX8_rules_48 (fun hc => ?_) (fun hc => ?_)
      · have hF := if_t hF hc
        refine aw_sub [0, 1, 2, 3, 4, 5, 6, 7] (lv' := [(0, q_r 70), (1, q_i x1), (2, q_i x2), (3, q_i x3), (4, q_i x4), (5, q_i x5), (6, q_i x6), (7, q_i x7)]) rfl ?_
        exact bk_X8_rules_79 hK hR hrec_7 hrec_37 hF
      · have hF := if_f hF hc
        refine aw_iload hK 7 rfl dX8_rules_51 ?_
        refine aw_iload hK 4 rfl dX8_rules_53 ?_
        refine aw_icmp_ne hK 62 rfl dX8_rules_55 (fun hc => ?_) (fun hc => ?_)
        · have hF := if_f hF hc
          refine aw_iconst hK (0) rfl dX8_rules_62 ?_
          refine aw_sub [0, 1, 2, 3, 4, 5, 6, 7] (lv' := [(0, q_r 70), (1, q_i x1), (2, q_i x2), (3, q_i x3), (4, q_i x4), (5, q_i x5), (6, q_i x6), (7, q_i x7)]) rfl ?_
          exact bk_X8_rules_63 hK hR hrec_7 hrec_37 hF
        · have hF := if_t hF hc
          refine aw_iconst hK (1) rfl dX8_rules_58 ?_
          refine aw_goto hK 63 rfl dX8_rules_59 ?_
          refine aw_sub [0, 1, 2, 3, 4, 5, 6, 7] (lv' := [(0, q_r 70), (1, q_i x1), (2, q_i x2), (3, q_i x3), (4, q_i x4), (5, q_i x5), (6, q_i x6), (7, q_i x7)]) rfl ?_
          exact bk_X8_rules_63 hK hR hrec_7 hrec_37 hF
def B_X8_rules_33 (N : Nat) (rec_7 : Mem → Int32 → Int32 → Int32 → Int32 → Int32 → Int32 → Option (Int32 × Mem)) (m : Mem) (x1 : Int32) (x2 : Int32) (x3 : Int32) (x4 : Int32) (x5 : Int32) (x6 : Int32) (s0 : Int32) (s1 : Int32) : Option (Int32 × Mem) :=
  gd (inb s1 (alen 82)) <|
  gd (isb s0) <|
  bnd (mup m 82 (ix s1) s0) fun m5 =>
  L_X8_rules_37 N rec_7 N m5 x1 x2 x3 x4 x5 x6 (0 : Int32)
set_option maxRecDepth 100000 in
set_option maxHeartbeats 4000000 in
theorem bk_X8_rules_33 {N : Nat} {K : KT} {m' : Mem} {rec_7 : Mem → Int32 → Int32 → Int32 → Int32 → Int32 → Int32 → Option (Int32 × Mem)} {r : Int32} (hK : KOK K cX8_rules 8 RX8 wsX8_rules 3 0 70) (hR : KRet K (some .boolean) (some r) m') (hrec_7 : ∀ {m : Mem} {x1 : Int32} {x2 : Int32} {x3 : Int32} {x4 : Int32} {x5 : Int32} {x6 : Int32}, rec_7 m x1 x2 x3 x4 x5 x6 = some (r, m') → AW K 0 7 [(0, q_r 70), (1, q_i x1), (2, q_i x2), (3, q_i x3), (4, q_i x4), (5, q_i x5), (6, q_i x6)] [] m) {m : Mem} {x1 : Int32} {x2 : Int32} {x3 : Int32} {x4 : Int32} {x5 : Int32} {x6 : Int32} {s0 : Int32} {s1 : Int32} (hF : B_X8_rules_33 N rec_7 m x1 x2 x3 x4 x5 x6 s0 s1 = some (r, m')) : AW K 0 33 [(0, q_r 70), (1, q_i x1), (2, q_i x2), (3, q_i x3), (4, q_i x4), (5, q_i x5), (6, q_i x6)] [q_i s0, q_i s1, q_r 82] m := by
  unfold B_X8_rules_33 at hF
  obtain ⟨g3, hF⟩ := gd_some hF
  obtain ⟨g4, hF⟩ := gd_some hF
  refine aw_zast hK rfl g3 g4 dX8_rules_33 ?_
  obtain ⟨m5, hm5, hF⟩ := bnd_some hF
  refine aw_mm hm5 ?_
  refine aw_iconst hK (0) rfl dX8_rules_34 ?_
  refine aw_istore hK [(7, q_i (0 : Int32)), (0, q_r 70), (1, q_i x1), (2, q_i x2), (3, q_i x3), (4, q_i x4), (5, q_i x5), (6, q_i x6)] (by decide) rfl dX8_rules_35 ?_
  refine aw_sub [1, 2, 3, 4, 5, 6, 7, 0] (lv' := [(0, q_r 70), (1, q_i x1), (2, q_i x2), (3, q_i x3), (4, q_i x4), (5, q_i x5), (6, q_i x6), (7, q_i (0 : Int32))]) rfl ?_
  exact lp_X8_rules_37 hK hR hrec_7 _ hF
def S_X8_rules_7 (N : Nat) (rec_7 : Mem → Int32 → Int32 → Int32 → Int32 → Int32 → Int32 → Option (Int32 × Mem)) (m : Mem) (x1 : Int32) (x2 : Int32) (x3 : Int32) (x4 : Int32) (x5 : Int32) (x6 : Int32) : Option (Int32 × Mem) :=
  if (6 : Int32) ≤ x6 then (
    if x3 = (-1 : Int32) then (
      B_X8_rules_123 N m (3 : Int32)
    ) else (
      B_X8_rules_123 N m (0 : Int32)
    )
  ) else (
    if (q_rem x6 (3 : Int32)) = (1 : Int32) then (
      B_X8_rules_33 N rec_7 m x1 x2 x3 x4 x5 x6 (0 : Int32) x6
    ) else (
      B_X8_rules_33 N rec_7 m x1 x2 x3 x4 x5 x6 (1 : Int32) x6
    )
  )
def L_X8_rules_7 (N : Nat) : Nat → Mem → Int32 → Int32 → Int32 → Int32 → Int32 → Int32 → Option (Int32 × Mem)
  | 0 => fun _ _ _ _ _ _ _ => none
  | f + 1 => S_X8_rules_7 N (L_X8_rules_7 N f)
set_option maxRecDepth 100000 in
set_option maxHeartbeats 4000000 in
theorem lp_X8_rules_7 {N : Nat} {K : KT} {m' : Mem} {r : Int32} (hK : KOK K cX8_rules 8 RX8 wsX8_rules 3 0 70) (hR : KRet K (some .boolean) (some r) m') : ∀ (f : Nat) {m : Mem} {x1 : Int32} {x2 : Int32} {x3 : Int32} {x4 : Int32} {x5 : Int32} {x6 : Int32}, L_X8_rules_7 N f m x1 x2 x3 x4 x5 x6 = some (r, m') → AW K 0 7 [(0, q_r 70), (1, q_i x1), (2, q_i x2), (3, q_i x3), (4, q_i x4), (5, q_i x5), (6, q_i x6)] [] m := by
  intro f
  induction f with
  | zero => intro m x1 x2 x3 x4 x5 x6 hF; cases hF
  | succ f hrec_7 =>
    intro m x1 x2 x3 x4 x5 x6 hF
    have hF : S_X8_rules_7 N (L_X8_rules_7 N f) m x1 x2 x3 x4 x5 x6 = some (r, m') := hF
    unfold S_X8_rules_7 at hF
    refine aw_iload hK 6 rfl dX8_rules_7 ?_
    refine aw_bipush hK (6) rfl dX8_rules_9 ?_
    refine aw_icmp_ge hK 112 rfl dX8_rules_11 (fun hc => ?_) (fun hc => ?_)
    · have hF := if_t hF hc
      refine aw_aload_n hK 0 rfl dX8_rules_112 ?_
      refine aw_iload_n hK 3 rfl dX8_rules_113 ?_
      refine aw_iconst hK (-1) rfl dX8_rules_114 ?_
      refine aw_icmp_ne hK 122 rfl dX8_rules_115 (fun hc => ?_) (fun hc => ?_)
      · have hF := if_f hF hc
        refine aw_iconst hK (0) rfl dX8_rules_122 ?_
        refine aw_sub [] (lv' := []) rfl ?_
        exact bk_X8_rules_123 hK hR hF
      · have hF := if_t hF hc
        refine aw_iconst hK (3) rfl dX8_rules_118 ?_
        refine aw_goto hK 123 rfl dX8_rules_119 ?_
        refine aw_sub [] (lv' := []) rfl ?_
        exact bk_X8_rules_123 hK hR hF
    · have hF := if_f hF hc
      refine aw_aload_n hK 0 rfl dX8_rules_14 ?_
      refine gf_8_15 hK rfl (82) rfl (List.mem_of_getElem? (i := 1) rfl) dX8_rules_15 ?_
      refine aw_iload hK 6 rfl dX8_rules_18 ?_
      refine aw_iload hK 6 rfl dX8_rules_20 ?_
      refine aw_iconst hK (3) rfl dX8_rules_22 ?_
      refine aw_irem hK (by decide) dX8_rules_23 ?_
      refine aw_iconst hK (1) rfl dX8_rules_24 ?_
      refine aw_icmp_eq hK 32 rfl dX8_rules_25 (fun hc => ?_) (fun hc => ?_)
      · have hF := if_t hF hc
        refine aw_iconst hK (0) rfl dX8_rules_32 ?_
        refine aw_sub [0, 1, 2, 3, 4, 5, 6] (lv' := [(0, q_r 70), (1, q_i x1), (2, q_i x2), (3, q_i x3), (4, q_i x4), (5, q_i x5), (6, q_i x6)]) rfl ?_
        exact bk_X8_rules_33 hK hR hrec_7 hF
      · have hF := if_f hF hc
        refine aw_iconst hK (1) rfl dX8_rules_28 ?_
        refine aw_goto hK 33 rfl dX8_rules_29 ?_
        refine aw_sub [0, 1, 2, 3, 4, 5, 6] (lv' := [(0, q_r 70), (1, q_i x1), (2, q_i x2), (3, q_i x3), (4, q_i x4), (5, q_i x5), (6, q_i x6)]) rfl ?_
        exact bk_X8_rules_33 hK hR hrec_7 hF
def F_X8_rules (N : Nat) (m : Mem) (x1 : Int32) (x2 : Int32) (x3 : Int32) (x4 : Int32) (x5 : Int32) : Option (Int32 × Mem) :=
  calv (F_X8_begins N m) fun m2 =>
  L_X8_rules_7 N N m2 x1 x2 x3 x4 x5 (0 : Int32)
set_option maxRecDepth 100000 in
set_option maxHeartbeats 4000000 in
theorem tr_X8_rules {N : Nat} {m m' : Mem} {r : Int32} {x1 : Int32} {x2 : Int32} {x3 : Int32} {x4 : Int32} {x5 : Int32} (hF : F_X8_rules N m x1 x2 x3 x4 x5 = some (r, m')) : Tr yX8_rules wsX8_rules 3 70 [q_r 70, q_i x1, q_i x2, q_i x3, q_i x4, q_i x5] m (some r) m' := by
  refine tr_of (bytes := cX8_rules) (maxL := 8) (ret := (some .boolean)) (by decide) rfl (Nat.le_of_ble_eq_true rfl) (fun K hK hR => ?_)
  have hK : KOK K cX8_rules 8 RX8 wsX8_rules 3 0 70 := hK
  show AW K 0 0 [(0, q_r 70), (1, q_i x1), (2, q_i x2), (3, q_i x3), (4, q_i x4), (5, q_i x5)] [] m
  unfold F_X8_rules at hF
  refine aw_aload_n hK 0 rfl dX8_rules_0 ?_
  obtain ⟨m2, h1, hF⟩ := calv_some hF
  refine aw_cv hK 8 (as := []) (tr_X8_begins h1) gX8_rules_X8_begins rfl rfl rfl (by decide) (na := 0) (by decide +kernel) rfl ⟨by decide, by decide⟩ (Nat.zero_le _) (Nat.le_of_ble_eq_true rfl) dX8_rules_1 ?_
  refine aw_iconst hK (0) rfl dX8_rules_4 ?_
  refine aw_istore hK [(6, q_i (0 : Int32)), (0, q_r 70), (1, q_i x1), (2, q_i x2), (3, q_i x3), (4, q_i x4), (5, q_i x5)] (by decide) rfl dX8_rules_5 ?_
  refine aw_sub [1, 2, 3, 4, 5, 6, 0] (lv' := [(0, q_r 70), (1, q_i x1), (2, q_i x2), (3, q_i x3), (4, q_i x4), (5, q_i x5), (6, q_i (0 : Int32))]) rfl ?_
  exact lp_X8_rules_7 hK hR _ hF
def B_X8_rule_86 (N : Nat) (m : Mem) (s0 : Int32) : Option (Int32 × Mem) :=
  cal (F_X8_isFine N m s0) fun r10 m9 =>
  if r10 = (0 : Int32) then (
    some ((0 : Int32), m9)
  ) else (
    cal (F_X8_keeps N m9) fun r13 m12 =>
    some (r13, m12)
  )
set_option maxRecDepth 100000 in
set_option maxHeartbeats 4000000 in
theorem bk_X8_rule_86 {N : Nat} {K : KT} {m' : Mem} {r : Int32} (hK : KOK K cX8_rule 8 RX8 wsX8_rule 4 0 97) (hR : KRet K (some .int) (some r) m') {m : Mem} {s0 : Int32} (hF : B_X8_rule_86 N m s0 = some (r, m')) : AW K 0 86 [(0, q_r 70)] [q_i s0, q_r 70] m := by
  unfold B_X8_rule_86 at hF
  obtain ⟨r10, m9, h8, hF⟩ := cal_some hF
  refine aw_cv hK 8 (as := [q_i s0]) (tr_X8_isFine h8) gX8_rule_X8_isFine rfl rfl rfl (by decide) (na := 1) (by decide +kernel) rfl ⟨by decide, by decide⟩ (Nat.zero_le _) (Nat.le_of_ble_eq_true rfl) dX8_rule_86 ?_
  refine aw_if_ne hK 94 rfl dX8_rule_89 (fun hc => ?_) (fun hc => ?_)
  · have hF := if_f hF hc
    refine aw_aload_n hK 0 rfl dX8_rule_94 ?_
    obtain ⟨r13, m12, h11, hF⟩ := cal_some hF
    refine aw_cv hK 8 (as := []) (tr_X8_keeps h11) gX8_rule_X8_keeps rfl rfl rfl (by decide) (na := 0) (by decide +kernel) rfl ⟨by decide, by decide⟩ (Nat.zero_le _) (Nat.le_of_ble_eq_true rfl) dX8_rule_95 ?_
    obtain ⟨rfl, rfl⟩ := so_inj hF
    exact aw_iret hK hR rfl dX8_rule_98
  · have hF := if_t hF hc
    refine aw_iconst hK (0) rfl dX8_rule_92 ?_
    obtain ⟨rfl, rfl⟩ := so_inj hF
    exact aw_iret hK hR rfl dX8_rule_93
def B_X8_rule_81 (N : Nat) (m : Mem) : Option (Int32 × Mem) :=
  B_X8_rule_86 N m (2 : Int32)
set_option maxRecDepth 100000 in
set_option maxHeartbeats 4000000 in
theorem bk_X8_rule_81 {N : Nat} {K : KT} {m' : Mem} {r : Int32} (hK : KOK K cX8_rule 8 RX8 wsX8_rule 4 0 97) (hR : KRet K (some .int) (some r) m') {m : Mem} (hF : B_X8_rule_81 N m = some (r, m')) : AW K 0 81 [(0, q_r 70)] [q_r 70] m := by
  unfold B_X8_rule_81 at hF
  refine aw_iconst hK (2) rfl dX8_rule_81 ?_
  refine aw_goto hK 86 rfl dX8_rule_82 ?_
  refine aw_sub [0] (lv' := [(0, q_r 70)]) rfl ?_
  exact bk_X8_rule_86 hK hR hF
def B_X8_rule_43 (N : Nat) (m : Mem) (x1 : Int32) (x2 : Int32) (x3 : Int32) (x4 : Int32) (x5 : Int32) (x6 : Int32) (s0 : Int32) : Option (Int32 × Mem) :=
  if x6 = (0 : Int32) then (
    B_X8_rule_86 N m (1 : Int32)
  ) else (
    cal (F_X8_isThere N m) fun r4 m3 =>
    if r4 = (0 : Int32) then (
      B_X8_rule_81 N m3
    ) else (
      if s0 = (0 : Int32) then (
        cal (F_X8_rules N m3 x1 x2 x3 x4 x5) fun r7 m6 =>
        if r7 = (0 : Int32) then (
          B_X8_rule_81 N m6
        ) else (
          B_X8_rule_86 N m6 (0 : Int32)
        )
      ) else (
        B_X8_rule_81 N m3
      )
    )
  )
set_option maxRecDepth 100000 in
set_option maxHeartbeats 4000000 in
theorem bk_X8_rule_43 {N : Nat} {K : KT} {m' : Mem} {r : Int32} (hK : KOK K cX8_rule 8 RX8 wsX8_rule 4 0 97) (hR : KRet K (some .int) (some r) m') {m : Mem} {x1 : Int32} {x2 : Int32} {x3 : Int32} {x4 : Int32} {x5 : Int32} {x6 : Int32} {s0 : Int32} (hF : B_X8_rule_43 N m x1 x2 x3 x4 x5 x6 s0 = some (r, m')) : AW K 0 43 [(0, q_r 70), (1, q_i x1), (2, q_i x2), (3, q_i x3), (4, q_i x4), (5, q_i x5), (6, q_i x6)] [q_i s0] m := by
  unfold B_X8_rule_43 at hF
  refine aw_istore hK [(7, q_i s0), (0, q_r 70), (1, q_i x1), (2, q_i x2), (3, q_i x3), (4, q_i x4), (5, q_i x5), (6, q_i x6)] (by decide) rfl dX8_rule_43 ?_
  refine aw_aload_n hK 1 rfl dX8_rule_45 ?_
  refine aw_iload hK 7 rfl dX8_rule_46 ?_
  refine aw_if_ne hK 55 rfl dX8_rule_48 (fun hc => ?_) (fun hc => ?_)
  · have hF := if_f hF hc
    refine aw_aload_n hK 1 rfl dX8_rule_55 ?_
    obtain ⟨r4, m3, h2, hF⟩ := cal_some hF
    refine aw_cv hK 8 (as := []) (tr_X8_isThere h2) gX8_rule_X8_isThere rfl rfl rfl (by decide) (na := 0) (by decide +kernel) rfl ⟨by decide, by decide⟩ (Nat.zero_le _) (Nat.le_of_ble_eq_true rfl) dX8_rule_56 ?_
    refine aw_if_eq hK 81 rfl dX8_rule_59 (fun hc => ?_) (fun hc => ?_)
    · have hF := if_t hF hc
      refine aw_sub [1] (lv' := [(0, q_r 70)]) rfl ?_
      exact bk_X8_rule_81 hK hR hF
    · have hF := if_f hF hc
      refine aw_iload hK 0 rfl dX8_rule_62 ?_
      refine aw_if_ne hK 81 rfl dX8_rule_64 (fun hc => ?_) (fun hc => ?_)
      · have hF := if_f hF hc
        refine aw_sub [1] (lv' := [(0, q_r 70)]) rfl ?_
        exact bk_X8_rule_81 hK hR hF
      · have hF := if_t hF hc
        refine aw_aload_n hK 1 rfl dX8_rule_67 ?_
        refine aw_iload_n hK 2 rfl dX8_rule_68 ?_
        refine aw_iload_n hK 3 rfl dX8_rule_69 ?_
        refine aw_iload_n hK 4 rfl dX8_rule_70 ?_
        refine aw_iload hK 5 rfl dX8_rule_71 ?_
        refine aw_iload hK 6 rfl dX8_rule_73 ?_
        obtain ⟨r7, m6, h5, hF⟩ := cal_some hF
        refine aw_cv hK 8 (as := [q_i x1, q_i x2, q_i x3, q_i x4, q_i x5]) (tr_X8_rules h5) gX8_rule_X8_rules rfl rfl rfl (by decide) (na := 5) (by decide +kernel) rfl ⟨by decide, by decide⟩ (Nat.zero_le _) (Nat.le_of_ble_eq_true rfl) dX8_rule_75 ?_
        refine aw_if_ne hK 85 rfl dX8_rule_78 (fun hc => ?_) (fun hc => ?_)
        · have hF := if_f hF hc
          refine aw_iconst hK (0) rfl dX8_rule_85 ?_
          refine aw_sub [1] (lv' := [(0, q_r 70)]) rfl ?_
          exact bk_X8_rule_86 hK hR hF
        · have hF := if_t hF hc
          refine aw_sub [1] (lv' := [(0, q_r 70)]) rfl ?_
          exact bk_X8_rule_81 hK hR hF
  · have hF := if_t hF hc
    refine aw_iconst hK (1) rfl dX8_rule_51 ?_
    refine aw_goto hK 86 rfl dX8_rule_52 ?_
    refine aw_sub [1] (lv' := [(0, q_r 70)]) rfl ?_
    exact bk_X8_rule_86 hK hR hF
def B_X8_rule_42 (N : Nat) (m : Mem) (x1 : Int32) (x2 : Int32) (x3 : Int32) (x4 : Int32) (x5 : Int32) (x6 : Int32) : Option (Int32 × Mem) :=
  B_X8_rule_43 N m x1 x2 x3 x4 x5 x6 (0 : Int32)
set_option maxRecDepth 100000 in
set_option maxHeartbeats 4000000 in
theorem bk_X8_rule_42 {N : Nat} {K : KT} {m' : Mem} {r : Int32} (hK : KOK K cX8_rule 8 RX8 wsX8_rule 4 0 97) (hR : KRet K (some .int) (some r) m') {m : Mem} {x1 : Int32} {x2 : Int32} {x3 : Int32} {x4 : Int32} {x5 : Int32} {x6 : Int32} (hF : B_X8_rule_42 N m x1 x2 x3 x4 x5 x6 = some (r, m')) : AW K 0 42 [(0, q_r 70), (1, q_i x1), (2, q_i x2), (3, q_i x3), (4, q_i x4), (5, q_i x5), (6, q_i x6)] [] m := by
  unfold B_X8_rule_42 at hF
  refine aw_iconst hK (0) rfl dX8_rule_42 ?_
  refine aw_sub [0, 1, 2, 3, 4, 5, 6] (lv' := [(0, q_r 70), (1, q_i x1), (2, q_i x2), (3, q_i x3), (4, q_i x4), (5, q_i x5), (6, q_i x6)]) rfl ?_
  exact bk_X8_rule_43 hK hR hF
def B_X8_rule_38 (N : Nat) (m : Mem) (x1 : Int32) (x2 : Int32) (x3 : Int32) (x4 : Int32) (x5 : Int32) (x6 : Int32) : Option (Int32 × Mem) :=
  B_X8_rule_43 N m x1 x2 x3 x4 x5 x6 (1 : Int32)
set_option maxRecDepth 100000 in
set_option maxHeartbeats 4000000 in
theorem bk_X8_rule_38 {N : Nat} {K : KT} {m' : Mem} {r : Int32} (hK : KOK K cX8_rule 8 RX8 wsX8_rule 4 0 97) (hR : KRet K (some .int) (some r) m') {m : Mem} {x1 : Int32} {x2 : Int32} {x3 : Int32} {x4 : Int32} {x5 : Int32} {x6 : Int32} (hF : B_X8_rule_38 N m x1 x2 x3 x4 x5 x6 = some (r, m')) : AW K 0 38 [(0, q_r 70), (1, q_i x1), (2, q_i x2), (3, q_i x3), (4, q_i x4), (5, q_i x5), (6, q_i x6)] [] m := by
  unfold B_X8_rule_38 at hF
  refine aw_iconst hK (1) rfl dX8_rule_38 ?_
  refine aw_goto hK 43 rfl dX8_rule_39 ?_
  refine aw_sub [0, 1, 2, 3, 4, 5, 6] (lv' := [(0, q_r 70), (1, q_i x1), (2, q_i x2), (3, q_i x3), (4, q_i x4), (5, q_i x5), (6, q_i x6)]) rfl ?_
  exact bk_X8_rule_43 hK hR hF
def B_X8_rule_26 (N : Nat) (m : Mem) (x1 : Int32) (x2 : Int32) (x3 : Int32) (x4 : Int32) (x5 : Int32) (x6 : Int32) : Option (Int32 × Mem) :=
  if x4 = (-1 : Int32) then (
    B_X8_rule_38 N m x1 x2 x3 x4 x5 x6
  ) else (
    if x4 = x1 then (
      B_X8_rule_38 N m x1 x2 x3 x4 x5 x6
    ) else (
      B_X8_rule_42 N m x1 x2 x3 x4 x5 x6
    )
  )
set_option maxRecDepth 100000 in
set_option maxHeartbeats 4000000 in
theorem bk_X8_rule_26 {N : Nat} {K : KT} {m' : Mem} {r : Int32} (hK : KOK K cX8_rule 8 RX8 wsX8_rule 4 0 97) (hR : KRet K (some .int) (some r) m') {m : Mem} {x1 : Int32} {x2 : Int32} {x3 : Int32} {x4 : Int32} {x5 : Int32} {x6 : Int32} (hF : B_X8_rule_26 N m x1 x2 x3 x4 x5 x6 = some (r, m')) : AW K 0 26 [(0, q_r 70), (1, q_i x1), (2, q_i x2), (3, q_i x3), (4, q_i x4), (5, q_i x5), (6, q_i x6)] [] m := by
  unfold B_X8_rule_26 at hF
  refine aw_iload hK 4 rfl dX8_rule_26 ?_
  refine aw_iconst hK (-1) rfl dX8_rule_28 ?_
  refine aw_icmp_eq hK 38 rfl dX8_rule_29 (fun hc => ?_) (fun hc => ?_)
  · have hF := if_t hF hc
    refine aw_sub [0, 1, 2, 3, 4, 5, 6] (lv' := [(0, q_r 70), (1, q_i x1), (2, q_i x2), (3, q_i x3), (4, q_i x4), (5, q_i x5), (6, q_i x6)]) rfl ?_
    exact bk_X8_rule_38 hK hR hF
  · have hF := if_f hF hc
    refine aw_iload hK 4 rfl dX8_rule_32 ?_
    refine aw_iload_n hK 1 rfl dX8_rule_34 ?_
    refine aw_icmp_ne hK 42 rfl dX8_rule_35 (fun hc => ?_) (fun hc => ?_)
    · have hF := if_f hF hc
      refine aw_sub [0, 1, 2, 3, 4, 5, 6] (lv' := [(0, q_r 70), (1, q_i x1), (2, q_i x2), (3, q_i x3), (4, q_i x4), (5, q_i x5), (6, q_i x6)]) rfl ?_
      exact bk_X8_rule_42 hK hR hF
    · have hF := if_t hF hc
      refine aw_sub [0, 1, 2, 3, 4, 5, 6] (lv' := [(0, q_r 70), (1, q_i x1), (2, q_i x2), (3, q_i x3), (4, q_i x4), (5, q_i x5), (6, q_i x6)]) rfl ?_
      exact bk_X8_rule_38 hK hR hF
def F_X8_rule (N : Nat) (m : Mem) (x1 : Int32) (x2 : Int32) (x3 : Int32) (x4 : Int32) (x5 : Int32) : Option (Int32 × Mem) :=
  bnd (P_X8_isRule x1 x2 x3 x4) fun y1 =>
  if x2 = (8 : Int32) then (
    if x3 = (-1 : Int32) then (
      B_X8_rule_26 N m x1 x2 x3 x4 x5 y1
    ) else (
      if x3 = x1 then (
        B_X8_rule_26 N m x1 x2 x3 x4 x5 y1
      ) else (
        B_X8_rule_42 N m x1 x2 x3 x4 x5 y1
      )
    )
  ) else (
    B_X8_rule_42 N m x1 x2 x3 x4 x5 y1
  )
set_option maxRecDepth 100000 in
set_option maxHeartbeats 4000000 in
theorem tr_X8_rule {N : Nat} {m m' : Mem} {r : Int32} {x1 : Int32} {x2 : Int32} {x3 : Int32} {x4 : Int32} {x5 : Int32} (hF : F_X8_rule N m x1 x2 x3 x4 x5 = some (r, m')) : Tr yX8_rule wsX8_rule 4 97 [q_r 70, q_i x1, q_i x2, q_i x3, q_i x4, q_i x5] m (some r) m' := by
  refine tr_of (bytes := cX8_rule) (maxL := 8) (ret := (some .int)) (by decide) rfl (Nat.le_of_ble_eq_true rfl) (fun K hK hR => ?_)
  have hK : KOK K cX8_rule 8 RX8 wsX8_rule 4 0 97 := hK
  show AW K 0 0 [(0, q_r 70), (1, q_i x1), (2, q_i x2), (3, q_i x3), (4, q_i x4), (5, q_i x5)] [] m
  unfold F_X8_rule at hF
  refine aw_iload_n hK 1 rfl dX8_rule_0 ?_
  refine aw_iload_n hK 2 rfl dX8_rule_1 ?_
  refine aw_iload_n hK 3 rfl dX8_rule_2 ?_
  refine aw_iload hK 4 rfl dX8_rule_3 ?_
  refine aw_cs hK (as := [q_i x1, q_i x2, q_i x3, q_i x4]) (trp_X8_isRule x1 x2 x3 x4 _) gX8_rule_X8_isRule rfl (na := 4) (by decide +kernel) rfl ⟨by decide, by decide⟩ (Nat.zero_le _) (Nat.le_of_ble_eq_true rfl) dX8_rule_5 ?_
  obtain ⟨y1, hy1, hF⟩ := bnd_some hF
  refine aw_nm hy1 ?_
  refine aw_istore hK [(6, q_i y1), (0, q_r 70), (1, q_i x1), (2, q_i x2), (3, q_i x3), (4, q_i x4), (5, q_i x5)] (by decide) rfl dX8_rule_8 ?_
  refine aw_iload_n hK 3 rfl dX8_rule_10 ?_
  refine aw_bipush hK (8) rfl dX8_rule_11 ?_
  refine aw_icmp_ne hK 42 rfl dX8_rule_13 (fun hc => ?_) (fun hc => ?_)
  · have hF := if_f hF hc
    refine aw_sub [1, 2, 3, 4, 5, 6, 0] (lv' := [(0, q_r 70), (1, q_i x1), (2, q_i x2), (3, q_i x3), (4, q_i x4), (5, q_i x5), (6, q_i y1)]) rfl ?_
    exact bk_X8_rule_42 hK hR hF
  · have hF := if_t hF hc
    refine aw_iload_n hK 4 rfl dX8_rule_16 ?_
    refine aw_iconst hK (-1) rfl dX8_rule_17 ?_
    refine aw_icmp_eq hK 26 rfl dX8_rule_18 (fun hc => ?_) (fun hc => ?_)
    · have hF := if_t hF hc
      refine aw_sub [1, 2, 3, 4, 5, 6, 0] (lv' := [(0, q_r 70), (1, q_i x1), (2, q_i x2), (3, q_i x3), (4, q_i x4), (5, q_i x5), (6, q_i y1)]) rfl ?_
      exact bk_X8_rule_26 hK hR hF
    · have hF := if_f hF hc
      refine aw_iload_n hK 4 rfl dX8_rule_21 ?_
      refine aw_iload_n hK 2 rfl dX8_rule_22 ?_
      refine aw_icmp_ne hK 42 rfl dX8_rule_23 (fun hc => ?_) (fun hc => ?_)
      · have hF := if_f hF hc
        refine aw_sub [1, 2, 3, 4, 5, 6, 0] (lv' := [(0, q_r 70), (1, q_i x1), (2, q_i x2), (3, q_i x3), (4, q_i x4), (5, q_i x5), (6, q_i y1)]) rfl ?_
        exact bk_X8_rule_42 hK hR hF
      · have hF := if_t hF hc
        refine aw_sub [1, 2, 3, 4, 5, 6, 0] (lv' := [(0, q_r 70), (1, q_i x1), (2, q_i x2), (3, q_i x3), (4, q_i x4), (5, q_i x5), (6, q_i y1)]) rfl ?_
        exact bk_X8_rule_26 hK hR hF
def B_X8_size_41 (N : Nat) (m : Mem) (s0 : Int32) : Option (Int32 × Mem) :=
  some (s0, m)
set_option maxRecDepth 100000 in
set_option maxHeartbeats 4000000 in
theorem bk_X8_size_41 {N : Nat} {K : KT} {m' : Mem} {r : Int32} (hK : KOK K cX8_size 2 RX8 wsX8_size 2 0 43) (hR : KRet K (some .int) (some r) m') {m : Mem} {s0 : Int32} (hF : B_X8_size_41 N m s0 = some (r, m')) : AW K 0 41 [] [q_i s0] m := by
  unfold B_X8_size_41 at hF
  obtain ⟨rfl, rfl⟩ := so_inj hF
  exact aw_iret hK hR rfl dX8_size_41
def B_X8_size_14 (N : Nat) (m : Mem) (x1 : Int32) (s0 : Int32) : Option (Int32 × Mem) :=
  cal (F_X8_isFine N m s0) fun r6 m5 =>
  if r6 = (0 : Int32) then (
    B_X8_size_41 N m5 (0 : Int32)
  ) else (
    gd (inb x1 (alen 72)) <|
    gd (inb x1 (alen 74)) <|
    B_X8_size_41 N m5 (((1000 : Int32) * (m5 72 (ix x1))) + (m5 74 (ix x1)))
  )
set_option maxRecDepth 100000 in
set_option maxHeartbeats 4000000 in
theorem bk_X8_size_14 {N : Nat} {K : KT} {m' : Mem} {r : Int32} (hK : KOK K cX8_size 2 RX8 wsX8_size 2 0 43) (hR : KRet K (some .int) (some r) m') {m : Mem} {x1 : Int32} {s0 : Int32} (hF : B_X8_size_14 N m x1 s0 = some (r, m')) : AW K 0 14 [(0, q_r 70), (1, q_i x1)] [q_i s0, q_r 70] m := by
  unfold B_X8_size_14 at hF
  obtain ⟨r6, m5, h4, hF⟩ := cal_some hF
  refine aw_cv hK 8 (as := [q_i s0]) (tr_X8_isFine h4) gX8_size_X8_isFine rfl rfl rfl (by decide) (na := 1) (by decide +kernel) rfl ⟨by decide, by decide⟩ (Nat.zero_le _) (Nat.le_of_ble_eq_true rfl) dX8_size_14 ?_
  refine aw_if_eq hK 40 rfl dX8_size_17 (fun hc => ?_) (fun hc => ?_)
  · have hF := if_t hF hc
    refine aw_iconst hK (0) rfl dX8_size_40 ?_
    refine aw_sub [] (lv' := []) rfl ?_
    exact bk_X8_size_41 hK hR hF
  · have hF := if_f hF hc
    refine aw_sipush hK (1000) rfl dX8_size_20 ?_
    refine aw_aload_n hK 0 rfl dX8_size_23 ?_
    refine gf_8_3 hK rfl (72) rfl (List.mem_of_getElem? (i := 1) rfl) dX8_size_24 ?_
    refine aw_iload_n hK 1 rfl dX8_size_27 ?_
    obtain ⟨g7, hF⟩ := gd_some hF
    refine aw_iald hK rfl g7 dX8_size_28 ?_
    refine aw_imul hK dX8_size_29 ?_
    refine aw_aload_n hK 0 rfl dX8_size_30 ?_
    refine gf_8_5 hK rfl (74) rfl (List.mem_of_getElem? (i := 2) rfl) dX8_size_31 ?_
    refine aw_iload_n hK 1 rfl dX8_size_34 ?_
    obtain ⟨g8, hF⟩ := gd_some hF
    refine aw_iald hK rfl g8 dX8_size_35 ?_
    refine aw_iadd hK dX8_size_36 ?_
    refine aw_goto hK 41 rfl dX8_size_37 ?_
    refine aw_sub [] (lv' := []) rfl ?_
    exact bk_X8_size_41 hK hR hF
def F_X8_size (N : Nat) (m : Mem) (x1 : Int32) : Option (Int32 × Mem) :=
  cal (F_X8_isMachine N m x1) fun r3 m2 =>
  if r3 = (0 : Int32) then (
    B_X8_size_14 N m2 x1 (1 : Int32)
  ) else (
    B_X8_size_14 N m2 x1 (0 : Int32)
  )
set_option maxRecDepth 100000 in
set_option maxHeartbeats 4000000 in
theorem tr_X8_size {N : Nat} {m m' : Mem} {r : Int32} {x1 : Int32} (hF : F_X8_size N m x1 = some (r, m')) : Tr yX8_size wsX8_size 2 43 [q_r 70, q_i x1] m (some r) m' := by
  refine tr_of (bytes := cX8_size) (maxL := 2) (ret := (some .int)) (by decide) rfl (Nat.le_of_ble_eq_true rfl) (fun K hK hR => ?_)
  have hK : KOK K cX8_size 2 RX8 wsX8_size 2 0 43 := hK
  show AW K 0 0 [(0, q_r 70), (1, q_i x1)] [] m
  unfold F_X8_size at hF
  refine aw_aload_n hK 0 rfl dX8_size_0 ?_
  refine aw_aload_n hK 0 rfl dX8_size_1 ?_
  refine aw_iload_n hK 1 rfl dX8_size_2 ?_
  obtain ⟨r3, m2, h1, hF⟩ := cal_some hF
  refine aw_cv hK 8 (as := [q_i x1]) (tr_X8_isMachine h1) gX8_size_X8_isMachine rfl rfl rfl (by decide) (na := 1) (by decide +kernel) rfl ⟨by decide, by decide⟩ (Nat.zero_le _) (Nat.le_of_ble_eq_true rfl) dX8_size_3 ?_
  refine aw_if_eq hK 13 rfl dX8_size_6 (fun hc => ?_) (fun hc => ?_)
  · have hF := if_t hF hc
    refine aw_iconst hK (1) rfl dX8_size_13 ?_
    refine aw_sub [0, 1] (lv' := [(0, q_r 70), (1, q_i x1)]) rfl ?_
    exact bk_X8_size_14 hK hR hF
  · have hF := if_f hF hc
    refine aw_iconst hK (0) rfl dX8_size_9 ?_
    refine aw_goto hK 14 rfl dX8_size_10 ?_
    refine aw_sub [0, 1] (lv' := [(0, q_r 70), (1, q_i x1)]) rfl ?_
    exact bk_X8_size_14 hK hR hF
def B_X8_isEnd_50 (N : Nat) (m : Mem) (s0 : Int32) : Option (Int32 × Mem) :=
  gd (isb s0) <|
  some (s0, m)
set_option maxRecDepth 100000 in
set_option maxHeartbeats 4000000 in
theorem bk_X8_isEnd_50 {N : Nat} {K : KT} {m' : Mem} {r : Int32} (hK : KOK K cX8_isEnd 3 RX8 wsX8_isEnd 2 0 43) (hR : KRet K (some .boolean) (some r) m') {m : Mem} {s0 : Int32} (hF : B_X8_isEnd_50 N m s0 = some (r, m')) : AW K 0 50 [] [q_i s0] m := by
  unfold B_X8_isEnd_50 at hF
  obtain ⟨g11, hF⟩ := gd_some hF
  obtain ⟨rfl, rfl⟩ := so_inj hF
  exact aw_iret hK hR (isb_narrow g11) dX8_isEnd_50
def B_X8_isEnd_49 (N : Nat) (m : Mem) : Option (Int32 × Mem) :=
  B_X8_isEnd_50 N m (0 : Int32)
set_option maxRecDepth 100000 in
set_option maxHeartbeats 4000000 in
theorem bk_X8_isEnd_49 {N : Nat} {K : KT} {m' : Mem} {r : Int32} (hK : KOK K cX8_isEnd 3 RX8 wsX8_isEnd 2 0 43) (hR : KRet K (some .boolean) (some r) m') {m : Mem} (hF : B_X8_isEnd_49 N m = some (r, m')) : AW K 0 49 [] [] m := by
  unfold B_X8_isEnd_49 at hF
  refine aw_iconst hK (0) rfl dX8_isEnd_49 ?_
  refine aw_sub [] (lv' := []) rfl ?_
  exact bk_X8_isEnd_50 hK hR hF
def B_X8_isEnd_30 (N : Nat) (m : Mem) (x1 : Int32) (x2 : Int32) (s0 : Int32) : Option (Int32 × Mem) :=
  cal (F_X8_isFine N m s0) fun r7 m6 =>
  if r7 = (0 : Int32) then (
    B_X8_isEnd_49 N m6
  ) else (
    cal (F_X8_isEndOf N m6 x1 x2) fun r10 m9 =>
    if r10 = (0 : Int32) then (
      B_X8_isEnd_49 N m9
    ) else (
      B_X8_isEnd_50 N m9 (1 : Int32)
    )
  )
set_option maxRecDepth 100000 in
set_option maxHeartbeats 4000000 in
theorem bk_X8_isEnd_30 {N : Nat} {K : KT} {m' : Mem} {r : Int32} (hK : KOK K cX8_isEnd 3 RX8 wsX8_isEnd 2 0 43) (hR : KRet K (some .boolean) (some r) m') {m : Mem} {x1 : Int32} {x2 : Int32} {s0 : Int32} (hF : B_X8_isEnd_30 N m x1 x2 s0 = some (r, m')) : AW K 0 30 [(0, q_r 70), (1, q_i x1), (2, q_i x2)] [q_i s0, q_r 70] m := by
  unfold B_X8_isEnd_30 at hF
  obtain ⟨r7, m6, h5, hF⟩ := cal_some hF
  refine aw_cv hK 8 (as := [q_i s0]) (tr_X8_isFine h5) gX8_isEnd_X8_isFine rfl rfl rfl (by decide) (na := 1) (by decide +kernel) rfl ⟨by decide, by decide⟩ (Nat.zero_le _) (Nat.le_of_ble_eq_true rfl) dX8_isEnd_30 ?_
  refine aw_if_eq hK 49 rfl dX8_isEnd_33 (fun hc => ?_) (fun hc => ?_)
  · have hF := if_t hF hc
    refine aw_sub [] (lv' := []) rfl ?_
    exact bk_X8_isEnd_49 hK hR hF
  · have hF := if_f hF hc
    refine aw_aload_n hK 0 rfl dX8_isEnd_36 ?_
    refine aw_iload_n hK 1 rfl dX8_isEnd_37 ?_
    refine aw_iload_n hK 2 rfl dX8_isEnd_38 ?_
    obtain ⟨r10, m9, h8, hF⟩ := cal_some hF
    refine aw_cv hK 8 (as := [q_i x1, q_i x2]) (tr_X8_isEndOf h8) gX8_isEnd_X8_isEndOf rfl rfl rfl (by decide) (na := 2) (by decide +kernel) rfl ⟨by decide, by decide⟩ (Nat.zero_le _) (Nat.le_of_ble_eq_true rfl) dX8_isEnd_39 ?_
    refine aw_if_eq hK 49 rfl dX8_isEnd_42 (fun hc => ?_) (fun hc => ?_)
    · have hF := if_t hF hc
      refine aw_sub [] (lv' := []) rfl ?_
      exact bk_X8_isEnd_49 hK hR hF
    · have hF := if_f hF hc
      refine aw_iconst hK (1) rfl dX8_isEnd_45 ?_
      refine aw_goto hK 50 rfl dX8_isEnd_46 ?_
      refine aw_sub [] (lv' := []) rfl ?_
      exact bk_X8_isEnd_50 hK hR hF
def B_X8_isEnd_29 (N : Nat) (m : Mem) (x1 : Int32) (x2 : Int32) : Option (Int32 × Mem) :=
  B_X8_isEnd_30 N m x1 x2 (1 : Int32)
set_option maxRecDepth 100000 in
set_option maxHeartbeats 4000000 in
theorem bk_X8_isEnd_29 {N : Nat} {K : KT} {m' : Mem} {r : Int32} (hK : KOK K cX8_isEnd 3 RX8 wsX8_isEnd 2 0 43) (hR : KRet K (some .boolean) (some r) m') {m : Mem} {x1 : Int32} {x2 : Int32} (hF : B_X8_isEnd_29 N m x1 x2 = some (r, m')) : AW K 0 29 [(0, q_r 70), (1, q_i x1), (2, q_i x2)] [q_r 70] m := by
  unfold B_X8_isEnd_29 at hF
  refine aw_iconst hK (1) rfl dX8_isEnd_29 ?_
  refine aw_sub [0, 1, 2] (lv' := [(0, q_r 70), (1, q_i x1), (2, q_i x2)]) rfl ?_
  exact bk_X8_isEnd_30 hK hR hF
def F_X8_isEnd (N : Nat) (m : Mem) (x1 : Int32) (x2 : Int32) : Option (Int32 × Mem) :=
  cal (F_X8_isMachine N m x1) fun r3 m2 =>
  if r3 = (0 : Int32) then (
    B_X8_isEnd_29 N m2 x1 x2
  ) else (
    gd (inb x1 (alen 72)) <|
    if (P_X8_isIn x2 (0 : Int32) ((m2 72 (ix x1)) - (1 : Int32))) = (0 : Int32) then (
      B_X8_isEnd_29 N m2 x1 x2
    ) else (
      B_X8_isEnd_30 N m2 x1 x2 (0 : Int32)
    )
  )
set_option maxRecDepth 100000 in
set_option maxHeartbeats 4000000 in
theorem tr_X8_isEnd {N : Nat} {m m' : Mem} {r : Int32} {x1 : Int32} {x2 : Int32} (hF : F_X8_isEnd N m x1 x2 = some (r, m')) : Tr yX8_isEnd wsX8_isEnd 2 43 [q_r 70, q_i x1, q_i x2] m (some r) m' := by
  refine tr_of (bytes := cX8_isEnd) (maxL := 3) (ret := (some .boolean)) (by decide) rfl (Nat.le_of_ble_eq_true rfl) (fun K hK hR => ?_)
  have hK : KOK K cX8_isEnd 3 RX8 wsX8_isEnd 2 0 43 := hK
  show AW K 0 0 [(0, q_r 70), (1, q_i x1), (2, q_i x2)] [] m
  unfold F_X8_isEnd at hF
  refine aw_aload_n hK 0 rfl dX8_isEnd_0 ?_
  refine aw_aload_n hK 0 rfl dX8_isEnd_1 ?_
  refine aw_iload_n hK 1 rfl dX8_isEnd_2 ?_
  obtain ⟨r3, m2, h1, hF⟩ := cal_some hF
  refine aw_cv hK 8 (as := [q_i x1]) (tr_X8_isMachine h1) gX8_isEnd_X8_isMachine rfl rfl rfl (by decide) (na := 1) (by decide +kernel) rfl ⟨by decide, by decide⟩ (Nat.zero_le _) (Nat.le_of_ble_eq_true rfl) dX8_isEnd_3 ?_
  refine aw_if_eq hK 29 rfl dX8_isEnd_6 (fun hc => ?_) (fun hc => ?_)
  · have hF := if_t hF hc
    refine aw_sub [0, 1, 2] (lv' := [(0, q_r 70), (1, q_i x1), (2, q_i x2)]) rfl ?_
    exact bk_X8_isEnd_29 hK hR hF
  · have hF := if_f hF hc
    refine aw_iload_n hK 2 rfl dX8_isEnd_9 ?_
    refine aw_iconst hK (0) rfl dX8_isEnd_10 ?_
    refine aw_aload_n hK 0 rfl dX8_isEnd_11 ?_
    refine gf_8_3 hK rfl (72) rfl (List.mem_of_getElem? (i := 1) rfl) dX8_isEnd_12 ?_
    refine aw_iload_n hK 1 rfl dX8_isEnd_15 ?_
    obtain ⟨g4, hF⟩ := gd_some hF
    refine aw_iald hK rfl g4 dX8_isEnd_16 ?_
    refine aw_iconst hK (1) rfl dX8_isEnd_17 ?_
    refine aw_isub hK dX8_isEnd_18 ?_
    refine aw_cs hK (as := [q_i x2, q_i (0 : Int32), q_i ((m2 72 (ix x1)) - (1 : Int32))]) (trp_X8_isIn x2 (0 : Int32) ((m2 72 (ix x1)) - (1 : Int32)) _) gX8_isEnd_X8_isIn rfl (na := 3) (by decide +kernel) rfl ⟨by decide, by decide⟩ (Nat.zero_le _) (Nat.le_of_ble_eq_true rfl) dX8_isEnd_19 ?_
    refine aw_if_eq hK 29 rfl dX8_isEnd_22 (fun hc => ?_) (fun hc => ?_)
    · have hF := if_t hF hc
      refine aw_sub [0, 1, 2] (lv' := [(0, q_r 70), (1, q_i x1), (2, q_i x2)]) rfl ?_
      exact bk_X8_isEnd_29 hK hR hF
    · have hF := if_f hF hc
      refine aw_iconst hK (0) rfl dX8_isEnd_25 ?_
      refine aw_goto hK 30 rfl dX8_isEnd_26 ?_
      refine aw_sub [0, 1, 2] (lv' := [(0, q_r 70), (1, q_i x1), (2, q_i x2)]) rfl ?_
      exact bk_X8_isEnd_30 hK hR hF
def B_X8_arc_138 (N : Nat) (m : Mem) (s0 : Int32) : Option (Int32 × Mem) :=
  some (s0, m)
set_option maxRecDepth 100000 in
set_option maxHeartbeats 4000000 in
theorem bk_X8_arc_138 {N : Nat} {K : KT} {m' : Mem} {r : Int32} (hK : KOK K cX8_arc 6 RX8 wsX8_arc 2 0 43) (hR : KRet K (some .int) (some r) m') {m : Mem} {s0 : Int32} (hF : B_X8_arc_138 N m s0 = some (r, m')) : AW K 0 138 [] [q_i s0] m := by
  unfold B_X8_arc_138 at hF
  obtain ⟨rfl, rfl⟩ := so_inj hF
  exact aw_iret hK hR rfl dX8_arc_138
def B_X8_arc_55 (N : Nat) (m : Mem) (x1 : Int32) (x2 : Int32) (x3 : Int32) (s0 : Int32) : Option (Int32 × Mem) :=
  cal (F_X8_isFine N m s0) fun r7 m6 =>
  if r7 = (0 : Int32) then (
    some ((0 : Int32), m6)
  ) else (
    bnd (((160 : Int32) * x1) + x2) fun y8 =>
    if x3 = (0 : Int32) then (
      gd (inb y8 (alen 75)) <|
      B_X8_arc_138 N m6 (m6 75 (ix y8))
    ) else (
      if x3 = (1 : Int32) then (
        gd (inb y8 (alen 76)) <|
        B_X8_arc_138 N m6 (m6 76 (ix y8))
      ) else (
        if x3 = (2 : Int32) then (
          gd (inb y8 (alen 77)) <|
          B_X8_arc_138 N m6 (m6 77 (ix y8))
        ) else (
          if x3 = (3 : Int32) then (
            gd (inb y8 (alen 78)) <|
            B_X8_arc_138 N m6 (m6 78 (ix y8))
          ) else (
            gd (inb y8 (alen 79)) <|
            B_X8_arc_138 N m6 (m6 79 (ix y8))
          )
        )
      )
    )
  )
set_option maxRecDepth 100000 in
set_option maxHeartbeats 4000000 in
theorem bk_X8_arc_55 {N : Nat} {K : KT} {m' : Mem} {r : Int32} (hK : KOK K cX8_arc 6 RX8 wsX8_arc 2 0 43) (hR : KRet K (some .int) (some r) m') {m : Mem} {x1 : Int32} {x2 : Int32} {x3 : Int32} {s0 : Int32} (hF : B_X8_arc_55 N m x1 x2 x3 s0 = some (r, m')) : AW K 0 55 [(0, q_r 70), (1, q_i x1), (2, q_i x2), (3, q_i x3)] [q_i s0, q_r 70] m := by
  unfold B_X8_arc_55 at hF
  obtain ⟨r7, m6, h5, hF⟩ := cal_some hF
  refine aw_cv hK 8 (as := [q_i s0]) (tr_X8_isFine h5) gX8_arc_X8_isFine rfl rfl rfl (by decide) (na := 1) (by decide +kernel) rfl ⟨by decide, by decide⟩ (Nat.zero_le _) (Nat.le_of_ble_eq_true rfl) dX8_arc_55 ?_
  refine aw_if_ne hK 63 rfl dX8_arc_58 (fun hc => ?_) (fun hc => ?_)
  · have hF := if_f hF hc
    refine aw_sipush hK (160) rfl dX8_arc_63 ?_
    refine aw_iload_n hK 1 rfl dX8_arc_66 ?_
    refine aw_imul hK dX8_arc_67 ?_
    refine aw_iload_n hK 2 rfl dX8_arc_68 ?_
    refine aw_iadd hK dX8_arc_69 ?_
    obtain ⟨y8, hy8, hF⟩ := bnd_some hF
    refine aw_nm hy8 ?_
    refine aw_istore hK [(5, q_i y8), (0, q_r 70), (1, q_i x1), (2, q_i x2), (3, q_i x3)] (by decide) rfl dX8_arc_70 ?_
    refine aw_iload_n hK 4 rfl dX8_arc_72 ?_
    refine aw_if_ne hK 86 rfl dX8_arc_73 (fun hc => ?_) (fun hc => ?_)
    · have hF := if_f hF hc
      refine aw_iload_n hK 4 rfl dX8_arc_86 ?_
      refine aw_iconst hK (1) rfl dX8_arc_87 ?_
      refine aw_icmp_ne hK 101 rfl dX8_arc_88 (fun hc => ?_) (fun hc => ?_)
      · have hF := if_f hF hc
        refine aw_iload_n hK 4 rfl dX8_arc_101 ?_
        refine aw_iconst hK (2) rfl dX8_arc_102 ?_
        refine aw_icmp_ne hK 116 rfl dX8_arc_103 (fun hc => ?_) (fun hc => ?_)
        · have hF := if_f hF hc
          refine aw_iload_n hK 4 rfl dX8_arc_116 ?_
          refine aw_iconst hK (3) rfl dX8_arc_117 ?_
          refine aw_icmp_ne hK 131 rfl dX8_arc_118 (fun hc => ?_) (fun hc => ?_)
          · have hF := if_f hF hc
            refine aw_aload_n hK 1 rfl dX8_arc_131 ?_
            refine gf_8_10 hK rfl (79) rfl (List.mem_of_getElem? (i := 6) rfl) dX8_arc_132 ?_
            refine aw_iload hK 0 rfl dX8_arc_135 ?_
            obtain ⟨g9, hF⟩ := gd_some hF
            refine aw_iald hK rfl g9 dX8_arc_137 ?_
            refine aw_sub [] (lv' := []) rfl ?_
            exact bk_X8_arc_138 hK hR hF
          · have hF := if_t hF hc
            refine aw_aload_n hK 1 rfl dX8_arc_121 ?_
            refine gf_8_9 hK rfl (78) rfl (List.mem_of_getElem? (i := 5) rfl) dX8_arc_122 ?_
            refine aw_iload hK 0 rfl dX8_arc_125 ?_
            obtain ⟨g10, hF⟩ := gd_some hF
            refine aw_iald hK rfl g10 dX8_arc_127 ?_
            refine aw_goto hK 138 rfl dX8_arc_128 ?_
            refine aw_sub [] (lv' := []) rfl ?_
            exact bk_X8_arc_138 hK hR hF
        · have hF := if_t hF hc
          refine aw_aload_n hK 1 rfl dX8_arc_106 ?_
          refine gf_8_8 hK rfl (77) rfl (List.mem_of_getElem? (i := 4) rfl) dX8_arc_107 ?_
          refine aw_iload hK 0 rfl dX8_arc_110 ?_
          obtain ⟨g11, hF⟩ := gd_some hF
          refine aw_iald hK rfl g11 dX8_arc_112 ?_
          refine aw_goto hK 138 rfl dX8_arc_113 ?_
          refine aw_sub [] (lv' := []) rfl ?_
          exact bk_X8_arc_138 hK hR hF
      · have hF := if_t hF hc
        refine aw_aload_n hK 1 rfl dX8_arc_91 ?_
        refine gf_8_7 hK rfl (76) rfl (List.mem_of_getElem? (i := 3) rfl) dX8_arc_92 ?_
        refine aw_iload hK 0 rfl dX8_arc_95 ?_
        obtain ⟨g12, hF⟩ := gd_some hF
        refine aw_iald hK rfl g12 dX8_arc_97 ?_
        refine aw_goto hK 138 rfl dX8_arc_98 ?_
        refine aw_sub [] (lv' := []) rfl ?_
        exact bk_X8_arc_138 hK hR hF
    · have hF := if_t hF hc
      refine aw_aload_n hK 1 rfl dX8_arc_76 ?_
      refine gf_8_6 hK rfl (75) rfl (List.mem_of_getElem? (i := 2) rfl) dX8_arc_77 ?_
      refine aw_iload hK 0 rfl dX8_arc_80 ?_
      obtain ⟨g13, hF⟩ := gd_some hF
      refine aw_iald hK rfl g13 dX8_arc_82 ?_
      refine aw_goto hK 138 rfl dX8_arc_83 ?_
      refine aw_sub [] (lv' := []) rfl ?_
      exact bk_X8_arc_138 hK hR hF
  · have hF := if_t hF hc
    refine aw_iconst hK (0) rfl dX8_arc_61 ?_
    obtain ⟨rfl, rfl⟩ := so_inj hF
    exact aw_iret hK hR rfl dX8_arc_62
def B_X8_arc_29 (N : Nat) (m : Mem) (x1 : Int32) (x2 : Int32) (x3 : Int32) (s0 : Int32) : Option (Int32 × Mem) :=
  if s0 = (0 : Int32) then (
    B_X8_arc_55 N m x1 x2 x3 (1 : Int32)
  ) else (
    if (P_X8_isIn x3 (0 : Int32) (4 : Int32)) = (0 : Int32) then (
      B_X8_arc_55 N m x1 x2 x3 (2 : Int32)
    ) else (
      B_X8_arc_55 N m x1 x2 x3 (0 : Int32)
    )
  )
set_option maxRecDepth 100000 in
set_option maxHeartbeats 4000000 in
theorem bk_X8_arc_29 {N : Nat} {K : KT} {m' : Mem} {r : Int32} (hK : KOK K cX8_arc 6 RX8 wsX8_arc 2 0 43) (hR : KRet K (some .int) (some r) m') {m : Mem} {x1 : Int32} {x2 : Int32} {x3 : Int32} {s0 : Int32} (hF : B_X8_arc_29 N m x1 x2 x3 s0 = some (r, m')) : AW K 0 29 [(0, q_r 70), (1, q_i x1), (2, q_i x2), (3, q_i x3)] [q_i s0] m := by
  unfold B_X8_arc_29 at hF
  refine aw_istore hK [(4, q_i s0), (0, q_r 70), (1, q_i x1), (2, q_i x2), (3, q_i x3)] (by decide) rfl dX8_arc_29 ?_
  refine aw_aload_n hK 1 rfl dX8_arc_31 ?_
  refine aw_iload hK 0 rfl dX8_arc_32 ?_
  refine aw_if_ne hK 41 rfl dX8_arc_34 (fun hc => ?_) (fun hc => ?_)
  · have hF := if_f hF hc
    refine aw_iload_n hK 4 rfl dX8_arc_41 ?_
    refine aw_iconst hK (0) rfl dX8_arc_42 ?_
    refine aw_iconst hK (4) rfl dX8_arc_43 ?_
    refine aw_cs hK (as := [q_i x3, q_i (0 : Int32), q_i (4 : Int32)]) (trp_X8_isIn x3 (0 : Int32) (4 : Int32) _) gX8_arc_X8_isIn rfl (na := 3) (by decide +kernel) rfl ⟨by decide, by decide⟩ (Nat.zero_le _) (Nat.le_of_ble_eq_true rfl) dX8_arc_44 ?_
    refine aw_if_ne hK 54 rfl dX8_arc_47 (fun hc => ?_) (fun hc => ?_)
    · have hF := if_f hF hc
      refine aw_iconst hK (0) rfl dX8_arc_54 ?_
      refine aw_sub [1, 2, 3, 4] (lv' := [(0, q_r 70), (1, q_i x1), (2, q_i x2), (3, q_i x3)]) rfl ?_
      exact bk_X8_arc_55 hK hR hF
    · have hF := if_t hF hc
      refine aw_iconst hK (2) rfl dX8_arc_50 ?_
      refine aw_goto hK 55 rfl dX8_arc_51 ?_
      refine aw_sub [1, 2, 3, 4] (lv' := [(0, q_r 70), (1, q_i x1), (2, q_i x2), (3, q_i x3)]) rfl ?_
      exact bk_X8_arc_55 hK hR hF
  · have hF := if_t hF hc
    refine aw_iconst hK (1) rfl dX8_arc_37 ?_
    refine aw_goto hK 55 rfl dX8_arc_38 ?_
    refine aw_sub [1, 2, 3, 4] (lv' := [(0, q_r 70), (1, q_i x1), (2, q_i x2), (3, q_i x3)]) rfl ?_
    exact bk_X8_arc_55 hK hR hF
def B_X8_arc_28 (N : Nat) (m : Mem) (x1 : Int32) (x2 : Int32) (x3 : Int32) : Option (Int32 × Mem) :=
  B_X8_arc_29 N m x1 x2 x3 (0 : Int32)
set_option maxRecDepth 100000 in
set_option maxHeartbeats 4000000 in
theorem bk_X8_arc_28 {N : Nat} {K : KT} {m' : Mem} {r : Int32} (hK : KOK K cX8_arc 6 RX8 wsX8_arc 2 0 43) (hR : KRet K (some .int) (some r) m') {m : Mem} {x1 : Int32} {x2 : Int32} {x3 : Int32} (hF : B_X8_arc_28 N m x1 x2 x3 = some (r, m')) : AW K 0 28 [(0, q_r 70), (1, q_i x1), (2, q_i x2), (3, q_i x3)] [] m := by
  unfold B_X8_arc_28 at hF
  refine aw_iconst hK (0) rfl dX8_arc_28 ?_
  refine aw_sub [0, 1, 2, 3] (lv' := [(0, q_r 70), (1, q_i x1), (2, q_i x2), (3, q_i x3)]) rfl ?_
  exact bk_X8_arc_29 hK hR hF
def F_X8_arc (N : Nat) (m : Mem) (x1 : Int32) (x2 : Int32) (x3 : Int32) : Option (Int32 × Mem) :=
  cal (F_X8_isMachine N m x1) fun r3 m2 =>
  if r3 = (0 : Int32) then (
    B_X8_arc_28 N m2 x1 x2 x3
  ) else (
    gd (inb x1 (alen 74)) <|
    if (P_X8_isIn x2 (0 : Int32) ((m2 74 (ix x1)) - (1 : Int32))) = (0 : Int32) then (
      B_X8_arc_28 N m2 x1 x2 x3
    ) else (
      B_X8_arc_29 N m2 x1 x2 x3 (1 : Int32)
    )
  )
set_option maxRecDepth 100000 in
set_option maxHeartbeats 4000000 in
theorem tr_X8_arc {N : Nat} {m m' : Mem} {r : Int32} {x1 : Int32} {x2 : Int32} {x3 : Int32} (hF : F_X8_arc N m x1 x2 x3 = some (r, m')) : Tr yX8_arc wsX8_arc 2 43 [q_r 70, q_i x1, q_i x2, q_i x3] m (some r) m' := by
  refine tr_of (bytes := cX8_arc) (maxL := 6) (ret := (some .int)) (by decide) rfl (Nat.le_of_ble_eq_true rfl) (fun K hK hR => ?_)
  have hK : KOK K cX8_arc 6 RX8 wsX8_arc 2 0 43 := hK
  show AW K 0 0 [(0, q_r 70), (1, q_i x1), (2, q_i x2), (3, q_i x3)] [] m
  unfold F_X8_arc at hF
  refine aw_aload_n hK 0 rfl dX8_arc_0 ?_
  refine aw_iload_n hK 1 rfl dX8_arc_1 ?_
  obtain ⟨r3, m2, h1, hF⟩ := cal_some hF
  refine aw_cv hK 8 (as := [q_i x1]) (tr_X8_isMachine h1) gX8_arc_X8_isMachine rfl rfl rfl (by decide) (na := 1) (by decide +kernel) rfl ⟨by decide, by decide⟩ (Nat.zero_le _) (Nat.le_of_ble_eq_true rfl) dX8_arc_2 ?_
  refine aw_if_eq hK 28 rfl dX8_arc_5 (fun hc => ?_) (fun hc => ?_)
  · have hF := if_t hF hc
    refine aw_sub [0, 1, 2, 3] (lv' := [(0, q_r 70), (1, q_i x1), (2, q_i x2), (3, q_i x3)]) rfl ?_
    exact bk_X8_arc_28 hK hR hF
  · have hF := if_f hF hc
    refine aw_iload_n hK 2 rfl dX8_arc_8 ?_
    refine aw_iconst hK (0) rfl dX8_arc_9 ?_
    refine aw_aload_n hK 0 rfl dX8_arc_10 ?_
    refine gf_8_5 hK rfl (74) rfl (List.mem_of_getElem? (i := 1) rfl) dX8_arc_11 ?_
    refine aw_iload_n hK 1 rfl dX8_arc_14 ?_
    obtain ⟨g4, hF⟩ := gd_some hF
    refine aw_iald hK rfl g4 dX8_arc_15 ?_
    refine aw_iconst hK (1) rfl dX8_arc_16 ?_
    refine aw_isub hK dX8_arc_17 ?_
    refine aw_cs hK (as := [q_i x2, q_i (0 : Int32), q_i ((m2 74 (ix x1)) - (1 : Int32))]) (trp_X8_isIn x2 (0 : Int32) ((m2 74 (ix x1)) - (1 : Int32)) _) gX8_arc_X8_isIn rfl (na := 3) (by decide +kernel) rfl ⟨by decide, by decide⟩ (Nat.zero_le _) (Nat.le_of_ble_eq_true rfl) dX8_arc_18 ?_
    refine aw_if_eq hK 28 rfl dX8_arc_21 (fun hc => ?_) (fun hc => ?_)
    · have hF := if_t hF hc
      refine aw_sub [0, 1, 2, 3] (lv' := [(0, q_r 70), (1, q_i x1), (2, q_i x2), (3, q_i x3)]) rfl ?_
      exact bk_X8_arc_28 hK hR hF
    · have hF := if_f hF hc
      refine aw_iconst hK (1) rfl dX8_arc_24 ?_
      refine aw_goto hK 29 rfl dX8_arc_25 ?_
      refine aw_sub [0, 1, 2, 3] (lv' := [(0, q_r 70), (1, q_i x1), (2, q_i x2), (3, q_i x3)]) rfl ?_
      exact bk_X8_arc_29 hK hR hF
def B_X8_isPlain_33 (N : Nat) (m : Mem) (s0 : Int32) : Option (Int32 × Mem) :=
  gd (isb s0) <|
  some (s0, m)
set_option maxRecDepth 100000 in
set_option maxHeartbeats 4000000 in
theorem bk_X8_isPlain_33 {N : Nat} {K : KT} {m' : Mem} {r : Int32} (hK : KOK K cX8_isPlain 2 RX8 wsX8_isPlain 2 0 43) (hR : KRet K (some .boolean) (some r) m') {m : Mem} {s0 : Int32} (hF : B_X8_isPlain_33 N m s0 = some (r, m')) : AW K 0 33 [] [q_i s0] m := by
  unfold B_X8_isPlain_33 at hF
  obtain ⟨g10, hF⟩ := gd_some hF
  obtain ⟨rfl, rfl⟩ := so_inj hF
  exact aw_iret hK hR (isb_narrow g10) dX8_isPlain_33
def B_X8_isPlain_32 (N : Nat) (m : Mem) : Option (Int32 × Mem) :=
  B_X8_isPlain_33 N m (0 : Int32)
set_option maxRecDepth 100000 in
set_option maxHeartbeats 4000000 in
theorem bk_X8_isPlain_32 {N : Nat} {K : KT} {m' : Mem} {r : Int32} (hK : KOK K cX8_isPlain 2 RX8 wsX8_isPlain 2 0 43) (hR : KRet K (some .boolean) (some r) m') {m : Mem} (hF : B_X8_isPlain_32 N m = some (r, m')) : AW K 0 32 [] [] m := by
  unfold B_X8_isPlain_32 at hF
  refine aw_iconst hK (0) rfl dX8_isPlain_32 ?_
  refine aw_sub [] (lv' := []) rfl ?_
  exact bk_X8_isPlain_33 hK hR hF
def B_X8_isPlain_14 (N : Nat) (m : Mem) (x1 : Int32) (s0 : Int32) : Option (Int32 × Mem) :=
  cal (F_X8_isFine N m s0) fun r6 m5 =>
  if r6 = (0 : Int32) then (
    B_X8_isPlain_32 N m5
  ) else (
    cal (F_X8_isPlainOf N m5 x1) fun r9 m8 =>
    if r9 = (0 : Int32) then (
      B_X8_isPlain_32 N m8
    ) else (
      B_X8_isPlain_33 N m8 (1 : Int32)
    )
  )
set_option maxRecDepth 100000 in
set_option maxHeartbeats 4000000 in
theorem bk_X8_isPlain_14 {N : Nat} {K : KT} {m' : Mem} {r : Int32} (hK : KOK K cX8_isPlain 2 RX8 wsX8_isPlain 2 0 43) (hR : KRet K (some .boolean) (some r) m') {m : Mem} {x1 : Int32} {s0 : Int32} (hF : B_X8_isPlain_14 N m x1 s0 = some (r, m')) : AW K 0 14 [(0, q_r 70), (1, q_i x1)] [q_i s0, q_r 70] m := by
  unfold B_X8_isPlain_14 at hF
  obtain ⟨r6, m5, h4, hF⟩ := cal_some hF
  refine aw_cv hK 8 (as := [q_i s0]) (tr_X8_isFine h4) gX8_isPlain_X8_isFine rfl rfl rfl (by decide) (na := 1) (by decide +kernel) rfl ⟨by decide, by decide⟩ (Nat.zero_le _) (Nat.le_of_ble_eq_true rfl) dX8_isPlain_14 ?_
  refine aw_if_eq hK 32 rfl dX8_isPlain_17 (fun hc => ?_) (fun hc => ?_)
  · have hF := if_t hF hc
    refine aw_sub [] (lv' := []) rfl ?_
    exact bk_X8_isPlain_32 hK hR hF
  · have hF := if_f hF hc
    refine aw_aload_n hK 0 rfl dX8_isPlain_20 ?_
    refine aw_iload_n hK 1 rfl dX8_isPlain_21 ?_
    obtain ⟨r9, m8, h7, hF⟩ := cal_some hF
    refine aw_cv hK 8 (as := [q_i x1]) (tr_X8_isPlainOf h7) gX8_isPlain_X8_isPlainOf rfl rfl rfl (by decide) (na := 1) (by decide +kernel) rfl ⟨by decide, by decide⟩ (Nat.zero_le _) (Nat.le_of_ble_eq_true rfl) dX8_isPlain_22 ?_
    refine aw_if_eq hK 32 rfl dX8_isPlain_25 (fun hc => ?_) (fun hc => ?_)
    · have hF := if_t hF hc
      refine aw_sub [] (lv' := []) rfl ?_
      exact bk_X8_isPlain_32 hK hR hF
    · have hF := if_f hF hc
      refine aw_iconst hK (1) rfl dX8_isPlain_28 ?_
      refine aw_goto hK 33 rfl dX8_isPlain_29 ?_
      refine aw_sub [] (lv' := []) rfl ?_
      exact bk_X8_isPlain_33 hK hR hF
def F_X8_isPlain (N : Nat) (m : Mem) (x1 : Int32) : Option (Int32 × Mem) :=
  cal (F_X8_isMachine N m x1) fun r3 m2 =>
  if r3 = (0 : Int32) then (
    B_X8_isPlain_14 N m2 x1 (1 : Int32)
  ) else (
    B_X8_isPlain_14 N m2 x1 (0 : Int32)
  )
set_option maxRecDepth 100000 in
set_option maxHeartbeats 4000000 in
theorem tr_X8_isPlain {N : Nat} {m m' : Mem} {r : Int32} {x1 : Int32} (hF : F_X8_isPlain N m x1 = some (r, m')) : Tr yX8_isPlain wsX8_isPlain 2 43 [q_r 70, q_i x1] m (some r) m' := by
  refine tr_of (bytes := cX8_isPlain) (maxL := 2) (ret := (some .boolean)) (by decide) rfl (Nat.le_of_ble_eq_true rfl) (fun K hK hR => ?_)
  have hK : KOK K cX8_isPlain 2 RX8 wsX8_isPlain 2 0 43 := hK
  show AW K 0 0 [(0, q_r 70), (1, q_i x1)] [] m
  unfold F_X8_isPlain at hF
  refine aw_aload_n hK 0 rfl dX8_isPlain_0 ?_
  refine aw_aload_n hK 0 rfl dX8_isPlain_1 ?_
  refine aw_iload_n hK 1 rfl dX8_isPlain_2 ?_
  obtain ⟨r3, m2, h1, hF⟩ := cal_some hF
  refine aw_cv hK 8 (as := [q_i x1]) (tr_X8_isMachine h1) gX8_isPlain_X8_isMachine rfl rfl rfl (by decide) (na := 1) (by decide +kernel) rfl ⟨by decide, by decide⟩ (Nat.zero_le _) (Nat.le_of_ble_eq_true rfl) dX8_isPlain_3 ?_
  refine aw_if_eq hK 13 rfl dX8_isPlain_6 (fun hc => ?_) (fun hc => ?_)
  · have hF := if_t hF hc
    refine aw_iconst hK (1) rfl dX8_isPlain_13 ?_
    refine aw_sub [0, 1] (lv' := [(0, q_r 70), (1, q_i x1)]) rfl ?_
    exact bk_X8_isPlain_14 hK hR hF
  · have hF := if_f hF hc
    refine aw_iconst hK (0) rfl dX8_isPlain_9 ?_
    refine aw_goto hK 14 rfl dX8_isPlain_10 ?_
    refine aw_sub [0, 1] (lv' := [(0, q_r 70), (1, q_i x1)]) rfl ?_
    exact bk_X8_isPlain_14 hK hR hF
def B_X8_inOf_19 (N : Nat) (m : Mem) (s0 : Int32) : Option (Int32 × Mem) :=
  some (s0, m)
set_option maxRecDepth 100000 in
set_option maxHeartbeats 4000000 in
theorem bk_X8_inOf_19 {N : Nat} {K : KT} {m' : Mem} {r : Int32} (hK : KOK K cX8_inOf 3 RX8 wsX8_inOf 0 0 0) (hR : KRet K (some .int) (some r) m') {m : Mem} {s0 : Int32} (hF : B_X8_inOf_19 N m s0 = some (r, m')) : AW K 0 19 [] [q_i s0] m := by
  unfold B_X8_inOf_19 at hF
  obtain ⟨rfl, rfl⟩ := so_inj hF
  exact aw_iret hK hR rfl dX8_inOf_19
def F_X8_inOf (N : Nat) (m : Mem) (x1 : Int32) (x2 : Int32) : Option (Int32 × Mem) :=
  if x2 = (0 : Int32) then (
    gd (inb x1 (alen 76)) <|
    B_X8_inOf_19 N m (m 76 (ix x1))
  ) else (
    gd (inb x1 (alen 77)) <|
    B_X8_inOf_19 N m (m 77 (ix x1))
  )
set_option maxRecDepth 100000 in
set_option maxHeartbeats 4000000 in
theorem tr_X8_inOf {N : Nat} {m m' : Mem} {r : Int32} {x1 : Int32} {x2 : Int32} (hF : F_X8_inOf N m x1 x2 = some (r, m')) : Tr yX8_inOf wsX8_inOf 0 0 [q_r 70, q_i x1, q_i x2] m (some r) m' := by
  refine tr_of (bytes := cX8_inOf) (maxL := 3) (ret := (some .int)) (by decide) rfl (Nat.le_of_ble_eq_true rfl) (fun K hK hR => ?_)
  have hK : KOK K cX8_inOf 3 RX8 wsX8_inOf 0 0 0 := hK
  show AW K 0 0 [(0, q_r 70), (1, q_i x1), (2, q_i x2)] [] m
  unfold F_X8_inOf at hF
  refine aw_iload_n hK 2 rfl dX8_inOf_0 ?_
  refine aw_if_eq hK 13 rfl dX8_inOf_1 (fun hc => ?_) (fun hc => ?_)
  · have hF := if_t hF hc
    refine aw_aload_n hK 0 rfl dX8_inOf_13 ?_
    refine gf_8_7 hK rfl (76) rfl (List.mem_of_getElem? (i := 2) rfl) dX8_inOf_14 ?_
    refine aw_iload_n hK 1 rfl dX8_inOf_17 ?_
    obtain ⟨g1, hF⟩ := gd_some hF
    refine aw_iald hK rfl g1 dX8_inOf_18 ?_
    refine aw_sub [] (lv' := []) rfl ?_
    exact bk_X8_inOf_19 hK hR hF
  · have hF := if_f hF hc
    refine aw_aload_n hK 0 rfl dX8_inOf_4 ?_
    refine gf_8_8 hK rfl (77) rfl (List.mem_of_getElem? (i := 1) rfl) dX8_inOf_5 ?_
    refine aw_iload_n hK 1 rfl dX8_inOf_8 ?_
    obtain ⟨g2, hF⟩ := gd_some hF
    refine aw_iald hK rfl g2 dX8_inOf_9 ?_
    refine aw_goto hK 19 rfl dX8_inOf_10 ?_
    refine aw_sub [] (lv' := []) rfl ?_
    exact bk_X8_inOf_19 hK hR hF
def B_X8_outOf_19 (N : Nat) (m : Mem) (s0 : Int32) : Option (Int32 × Mem) :=
  some (s0, m)
set_option maxRecDepth 100000 in
set_option maxHeartbeats 4000000 in
theorem bk_X8_outOf_19 {N : Nat} {K : KT} {m' : Mem} {r : Int32} (hK : KOK K cX8_outOf 3 RX8 wsX8_outOf 0 0 0) (hR : KRet K (some .int) (some r) m') {m : Mem} {s0 : Int32} (hF : B_X8_outOf_19 N m s0 = some (r, m')) : AW K 0 19 [] [q_i s0] m := by
  unfold B_X8_outOf_19 at hF
  obtain ⟨rfl, rfl⟩ := so_inj hF
  exact aw_iret hK hR rfl dX8_outOf_19
def F_X8_outOf (N : Nat) (m : Mem) (x1 : Int32) (x2 : Int32) : Option (Int32 × Mem) :=
  if x2 = (0 : Int32) then (
    gd (inb x1 (alen 77)) <|
    B_X8_outOf_19 N m (m 77 (ix x1))
  ) else (
    gd (inb x1 (alen 76)) <|
    B_X8_outOf_19 N m (m 76 (ix x1))
  )
set_option maxRecDepth 100000 in
set_option maxHeartbeats 4000000 in
theorem tr_X8_outOf {N : Nat} {m m' : Mem} {r : Int32} {x1 : Int32} {x2 : Int32} (hF : F_X8_outOf N m x1 x2 = some (r, m')) : Tr yX8_outOf wsX8_outOf 0 0 [q_r 70, q_i x1, q_i x2] m (some r) m' := by
  refine tr_of (bytes := cX8_outOf) (maxL := 3) (ret := (some .int)) (by decide) rfl (Nat.le_of_ble_eq_true rfl) (fun K hK hR => ?_)
  have hK : KOK K cX8_outOf 3 RX8 wsX8_outOf 0 0 0 := hK
  show AW K 0 0 [(0, q_r 70), (1, q_i x1), (2, q_i x2)] [] m
  unfold F_X8_outOf at hF
  refine aw_iload_n hK 2 rfl dX8_outOf_0 ?_
  refine aw_if_eq hK 13 rfl dX8_outOf_1 (fun hc => ?_) (fun hc => ?_)
  · have hF := if_t hF hc
    refine aw_aload_n hK 0 rfl dX8_outOf_13 ?_
    refine gf_8_8 hK rfl (77) rfl (List.mem_of_getElem? (i := 2) rfl) dX8_outOf_14 ?_
    refine aw_iload_n hK 1 rfl dX8_outOf_17 ?_
    obtain ⟨g1, hF⟩ := gd_some hF
    refine aw_iald hK rfl g1 dX8_outOf_18 ?_
    refine aw_sub [] (lv' := []) rfl ?_
    exact bk_X8_outOf_19 hK hR hF
  · have hF := if_f hF hc
    refine aw_aload_n hK 0 rfl dX8_outOf_4 ?_
    refine gf_8_7 hK rfl (76) rfl (List.mem_of_getElem? (i := 1) rfl) dX8_outOf_5 ?_
    refine aw_iload_n hK 1 rfl dX8_outOf_8 ?_
    obtain ⟨g2, hF⟩ := gd_some hF
    refine aw_iald hK rfl g2 dX8_outOf_9 ?_
    refine aw_goto hK 19 rfl dX8_outOf_10 ?_
    refine aw_sub [] (lv' := []) rfl ?_
    exact bk_X8_outOf_19 hK hR hF
def B_X8_behind_45 (N : Nat) (m : Mem) (s0 : Int32) : Option (Int32 × Mem) :=
  some (s0, m)
set_option maxRecDepth 100000 in
set_option maxHeartbeats 4000000 in
theorem bk_X8_behind_45 {N : Nat} {K : KT} {m' : Mem} {r : Int32} (hK : KOK K cX8_behind 5 RX8 wsX8_behind 1 0 22) (hR : KRet K (some .int) (some r) m') {m : Mem} {s0 : Int32} (hF : B_X8_behind_45 N m s0 = some (r, m')) : AW K 0 45 [] [q_i s0] m := by
  unfold B_X8_behind_45 at hF
  obtain ⟨rfl, rfl⟩ := so_inj hF
  exact aw_iret hK hR rfl dX8_behind_45
def B_X8_behind_44 (N : Nat) (m : Mem) : Option (Int32 × Mem) :=
  B_X8_behind_45 N m (-1 : Int32)
set_option maxRecDepth 100000 in
set_option maxHeartbeats 4000000 in
theorem bk_X8_behind_44 {N : Nat} {K : KT} {m' : Mem} {r : Int32} (hK : KOK K cX8_behind 5 RX8 wsX8_behind 1 0 22) (hR : KRet K (some .int) (some r) m') {m : Mem} (hF : B_X8_behind_44 N m = some (r, m')) : AW K 0 44 [] [] m := by
  unfold B_X8_behind_44 at hF
  refine aw_iconst hK (-1) rfl dX8_behind_44 ?_
  refine aw_sub [] (lv' := []) rfl ?_
  exact bk_X8_behind_45 hK hR hF
def F_X8_behind (N : Nat) (m : Mem) (x1 : Int32) (x2 : Int32) (x3 : Int32) : Option (Int32 × Mem) :=
  cal (F_X8_inOf N m x1 x3) fun r3 m2 =>
  if r3 = (8 : Int32) then (
    B_X8_behind_45 N m2 x2
  ) else (
    if (m2 70 2) ≤ x2 then (
      B_X8_behind_44 N m2
    ) else (
      gd (inb x2 (alen 71)) <|
      if (m2 71 (ix x2)) = r3 then (
        B_X8_behind_45 N m2 (x2 + (1 : Int32))
      ) else (
        B_X8_behind_44 N m2
      )
    )
  )
set_option maxRecDepth 100000 in
set_option maxHeartbeats 4000000 in
theorem tr_X8_behind {N : Nat} {m m' : Mem} {r : Int32} {x1 : Int32} {x2 : Int32} {x3 : Int32} (hF : F_X8_behind N m x1 x2 x3 = some (r, m')) : Tr yX8_behind wsX8_behind 1 22 [q_r 70, q_i x1, q_i x2, q_i x3] m (some r) m' := by
  refine tr_of (bytes := cX8_behind) (maxL := 5) (ret := (some .int)) (by decide) rfl (Nat.le_of_ble_eq_true rfl) (fun K hK hR => ?_)
  have hK : KOK K cX8_behind 5 RX8 wsX8_behind 1 0 22 := hK
  show AW K 0 0 [(0, q_r 70), (1, q_i x1), (2, q_i x2), (3, q_i x3)] [] m
  unfold F_X8_behind at hF
  refine aw_aload_n hK 0 rfl dX8_behind_0 ?_
  refine aw_iload_n hK 1 rfl dX8_behind_1 ?_
  refine aw_iload_n hK 3 rfl dX8_behind_2 ?_
  obtain ⟨r3, m2, h1, hF⟩ := cal_some hF
  refine aw_cv hK 8 (as := [q_i x1, q_i x3]) (tr_X8_inOf h1) gX8_behind_X8_inOf rfl rfl rfl (by decide) (na := 2) (by decide +kernel) rfl ⟨by decide, by decide⟩ (Nat.zero_le _) (Nat.le_of_ble_eq_true rfl) dX8_behind_3 ?_
  refine aw_istore hK [(4, q_i r3), (0, q_r 70), (1, q_i x1), (2, q_i x2), (3, q_i x3)] (by decide) rfl dX8_behind_6 ?_
  refine aw_iload hK 0 rfl dX8_behind_8 ?_
  refine aw_bipush hK (8) rfl dX8_behind_10 ?_
  refine aw_icmp_ne hK 19 rfl dX8_behind_12 (fun hc => ?_) (fun hc => ?_)
  · have hF := if_f hF hc
    refine aw_iload_n hK 3 rfl dX8_behind_19 ?_
    refine aw_aload_n hK 1 rfl dX8_behind_20 ?_
    refine gf_8_2 hK rfl (List.mem_of_getElem? (i := 1) rfl) dX8_behind_21 ?_
    refine aw_icmp_ge hK 44 rfl dX8_behind_24 (fun hc => ?_) (fun hc => ?_)
    · have hF := if_t hF hc
      refine aw_sub [] (lv' := []) rfl ?_
      exact bk_X8_behind_44 hK hR hF
    · have hF := if_f hF hc
      refine aw_aload_n hK 1 rfl dX8_behind_27 ?_
      refine gf_8_1 hK rfl (71) rfl (List.mem_of_getElem? (i := 2) rfl) dX8_behind_28 ?_
      refine aw_iload_n hK 3 rfl dX8_behind_31 ?_
      obtain ⟨g4, hF⟩ := gd_some hF
      refine aw_iald hK rfl g4 dX8_behind_32 ?_
      refine aw_iload hK 0 rfl dX8_behind_33 ?_
      refine aw_icmp_ne hK 44 rfl dX8_behind_35 (fun hc => ?_) (fun hc => ?_)
      · have hF := if_f hF hc
        refine aw_sub [] (lv' := []) rfl ?_
        exact bk_X8_behind_44 hK hR hF
      · have hF := if_t hF hc
        refine aw_iload_n hK 3 rfl dX8_behind_38 ?_
        refine aw_iconst hK (1) rfl dX8_behind_39 ?_
        refine aw_iadd hK dX8_behind_40 ?_
        refine aw_goto hK 45 rfl dX8_behind_41 ?_
        refine aw_sub [] (lv' := []) rfl ?_
        exact bk_X8_behind_45 hK hR hF
  · have hF := if_t hF hc
    refine aw_iload_n hK 3 rfl dX8_behind_15 ?_
    refine aw_goto hK 45 rfl dX8_behind_16 ?_
    refine aw_sub [] (lv' := []) rfl ?_
    exact bk_X8_behind_45 hK hR hF
